theorem dX7_init_0 : decode cX7_init 0 = .ok (.aload_n 0, 1) := by decide +kernel
theorem dX7_init_1 : decode cX7_init 1 = .ok (.invokespecial 1, 3) := by decide +kernel
theorem dX7_init_4 : decode cX7_init 4 = .ok (.aload_n 0, 1) := by decide +kernel
theorem dX7_init_5 : decode cX7_init 5 = .ok (.iconst 0, 1) := by decide +kernel
theorem dX7_init_6 : decode cX7_init 6 = .ok (.putfield 7, 3) := by decide +kernel
theorem dX7_init_9 : decode cX7_init 9 = .ok (.aload_n 0, 1) := by decide +kernel
theorem dX7_init_10 : decode cX7_init 10 = .ok (.iconst 0, 1) := by decide +kernel
theorem dX7_init_11 : decode cX7_init 11 = .ok (.putfield 13, 3) := by decide +kernel
theorem dX7_init_14 : decode cX7_init 14 = .ok (.aload_n 0, 1) := by decide +kernel
theorem dX7_init_15 : decode cX7_init 15 = .ok (.iconst 0, 1) := by decide +kernel
theorem dX7_init_16 : decode cX7_init 16 = .ok (.putfield 16, 3) := by decide +kernel
theorem dX7_init_19 : decode cX7_init 19 = .ok (.aload_n 0, 1) := by decide +kernel
theorem dX7_init_20 : decode cX7_init 20 = .ok (.iconst 0, 1) := by decide +kernel
theorem dX7_init_21 : decode cX7_init 21 = .ok (.putfield 19, 3) := by decide +kernel
theorem dX7_init_24 : decode cX7_init 24 = .ok (.aload_n 0, 1) := by decide +kernel
theorem dX7_init_25 : decode cX7_init 25 = .ok (.iconst 0, 1) := by decide +kernel
theorem dX7_init_26 : decode cX7_init 26 = .ok (.putfield 22, 3) := by decide +kernel
theorem dX7_init_29 : decode cX7_init 29 = .ok (.aload_n 0, 1) := by decide +kernel
theorem dX7_init_30 : decode cX7_init 30 = .ok (.bipush 6, 2) := by decide +kernel
theorem dX7_init_32 : decode cX7_init 32 = .ok (.newarray .int, 2) := by decide +kernel
theorem dX7_init_34 : decode cX7_init 34 = .ok (.putfield 25, 3) := by decide +kernel
theorem dX7_init_37 : decode cX7_init 37 = .ok (.aload_n 0, 1) := by decide +kernel
theorem dX7_init_38 : decode cX7_init 38 = .ok (.bipush 6, 2) := by decide +kernel
theorem dX7_init_40 : decode cX7_init 40 = .ok (.newarray .int, 2) := by decide +kernel
theorem dX7_init_42 : decode cX7_init 42 = .ok (.putfield 29, 3) := by decide +kernel
theorem dX7_init_45 : decode cX7_init 45 = .ok (.aload_n 0, 1) := by decide +kernel
theorem dX7_init_46 : decode cX7_init 46 = .ok (.bipush 6, 2) := by decide +kernel
theorem dX7_init_48 : decode cX7_init 48 = .ok (.newarray .int, 2) := by decide +kernel
theorem dX7_init_50 : decode cX7_init 50 = .ok (.putfield 32, 3) := by decide +kernel
theorem dX7_init_53 : decode cX7_init 53 = .ok (.aload_n 0, 1) := by decide +kernel
theorem dX7_init_54 : decode cX7_init 54 = .ok (.bipush 24, 2) := by decide +kernel
theorem dX7_init_56 : decode cX7_init 56 = .ok (.newarray .char, 2) := by decide +kernel
theorem dX7_init_58 : decode cX7_init 58 = .ok (.putfield 35, 3) := by decide +kernel
theorem dX7_init_61 : decode cX7_init 61 = .ok (.aload_n 0, 1) := by decide +kernel
theorem dX7_init_62 : decode cX7_init 62 = .ok (.bipush 40, 2) := by decide +kernel
theorem dX7_init_64 : decode cX7_init 64 = .ok (.newarray .int, 2) := by decide +kernel
theorem dX7_init_66 : decode cX7_init 66 = .ok (.putfield 39, 3) := by decide +kernel
theorem dX7_init_69 : decode cX7_init 69 = .ok (.aload_n 0, 1) := by decide +kernel
theorem dX7_init_70 : decode cX7_init 70 = .ok (.bipush 40, 2) := by decide +kernel
theorem dX7_init_72 : decode cX7_init 72 = .ok (.newarray .int, 2) := by decide +kernel
theorem dX7_init_74 : decode cX7_init 74 = .ok (.putfield 42, 3) := by decide +kernel
theorem dX7_init_77 : decode cX7_init 77 = .ok (.aload_n 0, 1) := by decide +kernel
theorem dX7_init_78 : decode cX7_init 78 = .ok (.bipush 40, 2) := by decide +kernel
theorem dX7_init_80 : decode cX7_init 80 = .ok (.newarray .int, 2) := by decide +kernel
theorem dX7_init_82 : decode cX7_init 82 = .ok (.putfield 45, 3) := by decide +kernel
theorem dX7_init_85 : decode cX7_init 85 = .ok (.aload_n 0, 1) := by decide +kernel
theorem dX7_init_86 : decode cX7_init 86 = .ok (.ldc 48, 2) := by decide +kernel
theorem dX7_init_88 : decode cX7_init 88 = .ok (.newarray .int, 2) := by decide +kernel
theorem dX7_init_90 : decode cX7_init 90 = .ok (.putfield 49, 3) := by decide +kernel
theorem dX7_init_93 : decode cX7_init 93 = .ok (.aload_n 0, 1) := by decide +kernel
theorem dX7_init_94 : decode cX7_init 94 = .ok (.bipush 8, 2) := by decide +kernel
theorem dX7_init_96 : decode cX7_init 96 = .ok (.newarray .int, 2) := by decide +kernel
theorem dX7_init_98 : decode cX7_init 98 = .ok (.putfield 52, 3) := by decide +kernel
theorem dX7_init_101 : decode cX7_init 101 = .ok (.aload_n 0, 1) := by decide +kernel
theorem dX7_init_102 : decode cX7_init 102 = .ok (.bipush 24, 2) := by decide +kernel
theorem dX7_init_104 : decode cX7_init 104 = .ok (.newarray .int, 2) := by decide +kernel
theorem dX7_init_106 : decode cX7_init 106 = .ok (.putfield 55, 3) := by decide +kernel
theorem dX7_init_109 : decode cX7_init 109 = .ok (.aload_n 0, 1) := by decide +kernel
theorem dX7_init_110 : decode cX7_init 110 = .ok (.bipush 120, 2) := by decide +kernel
theorem dX7_init_112 : decode cX7_init 112 = .ok (.newarray .int, 2) := by decide +kernel
theorem dX7_init_114 : decode cX7_init 114 = .ok (.putfield 58, 3) := by decide +kernel
theorem dX7_init_117 : decode cX7_init 117 = .ok (.aload_n 0, 1) := by decide +kernel
theorem dX7_init_118 : decode cX7_init 118 = .ok (.bipush 120, 2) := by decide +kernel
theorem dX7_init_120 : decode cX7_init 120 = .ok (.newarray .boolean, 2) := by decide +kernel
theorem dX7_init_122 : decode cX7_init 122 = .ok (.putfield 61, 3) := by decide +kernel
theorem dX7_init_125 : decode cX7_init 125 = .ok (.aload_n 0, 1) := by decide +kernel
theorem dX7_init_126 : decode cX7_init 126 = .ok (.bipush 40, 2) := by decide +kernel
theorem dX7_init_128 : decode cX7_init 128 = .ok (.newarray .boolean, 2) := by decide +kernel
theorem dX7_init_130 : decode cX7_init 130 = .ok (.putfield 65, 3) := by decide +kernel
theorem dX7_init_133 : decode cX7_init 133 = .ok (.aload_n 0, 1) := by decide +kernel
theorem dX7_init_134 : decode cX7_init 134 = .ok (.bipush 12, 2) := by decide +kernel
theorem dX7_init_136 : decode cX7_init 136 = .ok (.newarray .int, 2) := by decide +kernel
theorem dX7_init_138 : decode cX7_init 138 = .ok (.putfield 68, 3) := by decide +kernel
theorem dX7_init_141 : decode cX7_init 141 = .ok (.aload_n 0, 1) := by decide +kernel
theorem dX7_init_142 : decode cX7_init 142 = .ok (.bipush 12, 2) := by decide +kernel
theorem dX7_init_144 : decode cX7_init 144 = .ok (.newarray .int, 2) := by decide +kernel
theorem dX7_init_146 : decode cX7_init 146 = .ok (.putfield 71, 3) := by decide +kernel
theorem dX7_init_149 : decode cX7_init 149 = .ok (.aload_n 0, 1) := by decide +kernel
theorem dX7_init_150 : decode cX7_init 150 = .ok (.bipush 72, 2) := by decide +kernel
theorem dX7_init_152 : decode cX7_init 152 = .ok (.newarray .int, 2) := by decide +kernel
theorem dX7_init_154 : decode cX7_init 154 = .ok (.putfield 74, 3) := by decide +kernel
theorem dX7_init_157 : decode cX7_init 157 = .ok (.return_, 1) := by decide +kernel
theorem dX7_thrown_0 : decode cX7_thrown 0 = .ok (.aload_n 0, 1) := by decide +kernel
theorem dX7_thrown_1 : decode cX7_thrown 1 = .ok (.getfield 22, 3) := by decide +kernel
theorem dX7_thrown_4 : decode cX7_thrown 4 = .ok (.ireturn, 1) := by decide +kernel
theorem dX7_in_0 : decode cX7_in 0 = .ok (.iload_n 0, 1) := by decide +kernel
theorem dX7_in_1 : decode cX7_in 1 = .ok (.iload_n 1, 1) := by decide +kernel
theorem dX7_in_2 : decode cX7_in 2 = .ok (.if_icmp .lt 12, 3) := by decide +kernel
theorem dX7_in_5 : decode cX7_in 5 = .ok (.iload_n 0, 1) := by decide +kernel
theorem dX7_in_6 : decode cX7_in 6 = .ok (.iload_n 2, 1) := by decide +kernel
theorem dX7_in_7 : decode cX7_in 7 = .ok (.if_icmp .gt 7, 3) := by decide +kernel
theorem dX7_in_10 : decode cX7_in 10 = .ok (.iconst 1, 1) := by decide +kernel
theorem dX7_in_11 : decode cX7_in 11 = .ok (.goto 4, 3) := by decide +kernel
theorem dX7_in_14 : decode cX7_in 14 = .ok (.iconst 0, 1) := by decide +kernel
theorem dX7_in_15 : decode cX7_in 15 = .ok (.ireturn, 1) := by decide +kernel
theorem dX7_fails_0 : decode cX7_fails 0 = .ok (.aload_n 0, 1) := by decide +kernel
theorem dX7_fails_1 : decode cX7_fails 1 = .ok (.iload_n 1, 1) := by decide +kernel
theorem dX7_fails_2 : decode cX7_fails 2 = .ok (.putfield 22, 3) := by decide +kernel
theorem dX7_fails_5 : decode cX7_fails 5 = .ok (.iconst 0, 1) := by decide +kernel
theorem dX7_fails_6 : decode cX7_fails 6 = .ok (.ireturn, 1) := by decide +kernel
theorem dX7_tells_0 : decode cX7_tells 0 = .ok (.aload_n 0, 1) := by decide +kernel
theorem dX7_tells_1 : decode cX7_tells 1 = .ok (.iconst 0, 1) := by decide +kernel
theorem dX7_tells_2 : decode cX7_tells 2 = .ok (.putfield 22, 3) := by decide +kernel
theorem dX7_tells_5 : decode cX7_tells 5 = .ok (.iload_n 1, 1) := by decide +kernel
theorem dX7_tells_6 : decode cX7_tells 6 = .ok (.ireturn, 1) := by decide +kernel
theorem dX7_isPiece_0 : decode cX7_isPiece 0 = .ok (.iload_n 1, 1) := by decide +kernel
theorem dX7_isPiece_1 : decode cX7_isPiece 1 = .ok (.iconst 0, 1) := by decide +kernel
theorem dX7_isPiece_2 : decode cX7_isPiece 2 = .ok (.aload_n 0, 1) := by decide +kernel
theorem dX7_isPiece_3 : decode cX7_isPiece 3 = .ok (.getfield 7, 3) := by decide +kernel
theorem dX7_isPiece_6 : decode cX7_isPiece 6 = .ok (.iconst 1, 1) := by decide +kernel
theorem dX7_isPiece_7 : decode cX7_isPiece 7 = .ok (.isub, 1) := by decide +kernel
theorem dX7_isPiece_8 : decode cX7_isPiece 8 = .ok (.invokestatic 77, 3) := by decide +kernel
theorem dX7_isPiece_11 : decode cX7_isPiece 11 = .ok (.ireturn, 1) := by decide +kernel
theorem dX7_isVersion_0 : decode cX7_isVersion 0 = .ok (.iload_n 1, 1) := by decide +kernel
theorem dX7_isVersion_1 : decode cX7_isVersion 1 = .ok (.iconst 0, 1) := by decide +kernel
theorem dX7_isVersion_2 : decode cX7_isVersion 2 = .ok (.aload_n 0, 1) := by decide +kernel
theorem dX7_isVersion_3 : decode cX7_isVersion 3 = .ok (.getfield 13, 3) := by decide +kernel
theorem dX7_isVersion_6 : decode cX7_isVersion 6 = .ok (.iconst 1, 1) := by decide +kernel
theorem dX7_isVersion_7 : decode cX7_isVersion 7 = .ok (.isub, 1) := by decide +kernel
theorem dX7_isVersion_8 : decode cX7_isVersion 8 = .ok (.invokestatic 77, 3) := by decide +kernel
theorem dX7_isVersion_11 : decode cX7_isVersion 11 = .ok (.ireturn, 1) := by decide +kernel
theorem dX7_size_0 : decode cX7_size 0 = .ok (.aload_n 0, 1) := by decide +kernel
theorem dX7_size_1 : decode cX7_size 1 = .ok (.getfield 25, 3) := by decide +kernel
theorem dX7_size_4 : decode cX7_size 4 = .ok (.iload_n 1, 1) := by decide +kernel
theorem dX7_size_5 : decode cX7_size 5 = .ok (.iaload, 1) := by decide +kernel
theorem dX7_size_6 : decode cX7_size 6 = .ok (.aload_n 0, 1) := by decide +kernel
theorem dX7_size_7 : decode cX7_size 7 = .ok (.getfield 29, 3) := by decide +kernel
theorem dX7_size_10 : decode cX7_size 10 = .ok (.iload_n 1, 1) := by decide +kernel
theorem dX7_size_11 : decode cX7_size 11 = .ok (.iaload, 1) := by decide +kernel
theorem dX7_size_12 : decode cX7_size 12 = .ok (.imul, 1) := by decide +kernel
theorem dX7_size_13 : decode cX7_size 13 = .ok (.ireturn, 1) := by decide +kernel
theorem dX7_at_0 : decode cX7_at 0 = .ok (.bipush 41, 2) := by decide +kernel
theorem dX7_at_2 : decode cX7_at 2 = .ok (.bipush 32, 2) := by decide +kernel
theorem dX7_at_4 : decode cX7_at 4 = .ok (.iload_n 1, 1) := by decide +kernel
theorem dX7_at_5 : decode cX7_at 5 = .ok (.imul, 1) := by decide +kernel
theorem dX7_at_6 : decode cX7_at 6 = .ok (.aload_n 0, 1) := by decide +kernel
theorem dX7_at_7 : decode cX7_at 7 = .ok (.getfield 29, 3) := by decide +kernel
theorem dX7_at_10 : decode cX7_at 10 = .ok (.aload_n 0, 1) := by decide +kernel
theorem dX7_at_11 : decode cX7_at 11 = .ok (.getfield 39, 3) := by decide +kernel
theorem dX7_at_14 : decode cX7_at 14 = .ok (.iload_n 1, 1) := by decide +kernel
theorem dX7_at_15 : decode cX7_at 15 = .ok (.iaload, 1) := by decide +kernel
theorem dX7_at_16 : decode cX7_at 16 = .ok (.iaload, 1) := by decide +kernel
theorem dX7_at_17 : decode cX7_at 17 = .ok (.iload_n 2, 1) := by decide +kernel
theorem dX7_at_18 : decode cX7_at 18 = .ok (.imul, 1) := by decide +kernel
theorem dX7_at_19 : decode cX7_at 19 = .ok (.iadd, 1) := by decide +kernel
theorem dX7_at_20 : decode cX7_at 20 = .ok (.iload_n 3, 1) := by decide +kernel
theorem dX7_at_21 : decode cX7_at 21 = .ok (.iadd, 1) := by decide +kernel
theorem dX7_at_22 : decode cX7_at 22 = .ok (.imul, 1) := by decide +kernel
theorem dX7_at_23 : decode cX7_at 23 = .ok (.ireturn, 1) := by decide +kernel
theorem dX7_sheafAt_0 : decode cX7_sheafAt 0 = .ok (.bipush 41, 2) := by decide +kernel
theorem dX7_sheafAt_2 : decode cX7_sheafAt 2 = .ok (.bipush 32, 2) := by decide +kernel
theorem dX7_sheafAt_4 : decode cX7_sheafAt 4 = .ok (.iload_n 1, 1) := by decide +kernel
theorem dX7_sheafAt_5 : decode cX7_sheafAt 5 = .ok (.imul, 1) := by decide +kernel
theorem dX7_sheafAt_6 : decode cX7_sheafAt 6 = .ok (.iload_n 2, 1) := by decide +kernel
theorem dX7_sheafAt_7 : decode cX7_sheafAt 7 = .ok (.iadd, 1) := by decide +kernel
theorem dX7_sheafAt_8 : decode cX7_sheafAt 8 = .ok (.imul, 1) := by decide +kernel
theorem dX7_sheafAt_9 : decode cX7_sheafAt 9 = .ok (.ireturn, 1) := by decide +kernel
theorem dX7_adds_0 : decode cX7_adds 0 = .ok (.aload_n 0, 1) := by decide +kernel
theorem dX7_adds_1 : decode cX7_adds 1 = .ok (.getfield 39, 3) := by decide +kernel
theorem dX7_adds_4 : decode cX7_adds 4 = .ok (.aload_n 0, 1) := by decide +kernel
theorem dX7_adds_5 : decode cX7_adds 5 = .ok (.getfield 13, 3) := by decide +kernel
theorem dX7_adds_8 : decode cX7_adds 8 = .ok (.iload_n 1, 1) := by decide +kernel
theorem dX7_adds_9 : decode cX7_adds 9 = .ok (.iastore, 1) := by decide +kernel
theorem dX7_adds_10 : decode cX7_adds 10 = .ok (.aload_n 0, 1) := by decide +kernel
theorem dX7_adds_11 : decode cX7_adds 11 = .ok (.getfield 42, 3) := by decide +kernel
theorem dX7_adds_14 : decode cX7_adds 14 = .ok (.aload_n 0, 1) := by decide +kernel
theorem dX7_adds_15 : decode cX7_adds 15 = .ok (.getfield 13, 3) := by decide +kernel
theorem dX7_adds_18 : decode cX7_adds 18 = .ok (.iload_n 2, 1) := by decide +kernel
theorem dX7_adds_19 : decode cX7_adds 19 = .ok (.iastore, 1) := by decide +kernel
theorem dX7_adds_20 : decode cX7_adds 20 = .ok (.aload_n 0, 1) := by decide +kernel
theorem dX7_adds_21 : decode cX7_adds 21 = .ok (.getfield 45, 3) := by decide +kernel
theorem dX7_adds_24 : decode cX7_adds 24 = .ok (.aload_n 0, 1) := by decide +kernel
theorem dX7_adds_25 : decode cX7_adds 25 = .ok (.getfield 13, 3) := by decide +kernel
theorem dX7_adds_28 : decode cX7_adds 28 = .ok (.iload_n 3, 1) := by decide +kernel
theorem dX7_adds_29 : decode cX7_adds 29 = .ok (.iastore, 1) := by decide +kernel
theorem dX7_adds_30 : decode cX7_adds 30 = .ok (.aload_n 0, 1) := by decide +kernel
theorem dX7_adds_31 : decode cX7_adds 31 = .ok (.dup, 1) := by decide +kernel
theorem dX7_adds_32 : decode cX7_adds 32 = .ok (.getfield 13, 3) := by decide +kernel
theorem dX7_adds_35 : decode cX7_adds 35 = .ok (.iconst 1, 1) := by decide +kernel
theorem dX7_adds_36 : decode cX7_adds 36 = .ok (.iadd, 1) := by decide +kernel
theorem dX7_adds_37 : decode cX7_adds 37 = .ok (.putfield 13, 3) := by decide +kernel
theorem dX7_adds_40 : decode cX7_adds 40 = .ok (.aload_n 0, 1) := by decide +kernel
theorem dX7_adds_41 : decode cX7_adds 41 = .ok (.getfield 13, 3) := by decide +kernel
theorem dX7_adds_44 : decode cX7_adds 44 = .ok (.iconst 1, 1) := by decide +kernel
theorem dX7_adds_45 : decode cX7_adds 45 = .ok (.isub, 1) := by decide +kernel
theorem dX7_adds_46 : decode cX7_adds 46 = .ok (.ireturn, 1) := by decide +kernel
theorem dX7_piece_0 : decode cX7_piece 0 = .ok (.iload_n 1, 1) := by decide +kernel
theorem dX7_piece_1 : decode cX7_piece 1 = .ok (.iconst 1, 1) := by decide +kernel
theorem dX7_piece_2 : decode cX7_piece 2 = .ok (.bipush 8, 2) := by decide +kernel
theorem dX7_piece_4 : decode cX7_piece 4 = .ok (.invokestatic 77, 3) := by decide +kernel
theorem dX7_piece_7 : decode cX7_piece 7 = .ok (.ifCond .eq 12, 3) := by decide +kernel
theorem dX7_piece_10 : decode cX7_piece 10 = .ok (.iload_n 2, 1) := by decide +kernel
theorem dX7_piece_11 : decode cX7_piece 11 = .ok (.iconst 1, 1) := by decide +kernel
theorem dX7_piece_12 : decode cX7_piece 12 = .ok (.iconst 4, 1) := by decide +kernel
theorem dX7_piece_13 : decode cX7_piece 13 = .ok (.invokestatic 77, 3) := by decide +kernel
theorem dX7_piece_16 : decode cX7_piece 16 = .ok (.ifCond .ne 9, 3) := by decide +kernel
theorem dX7_piece_19 : decode cX7_piece 19 = .ok (.aload_n 0, 1) := by decide +kernel
theorem dX7_piece_20 : decode cX7_piece 20 = .ok (.iconst 1, 1) := by decide +kernel
theorem dX7_piece_21 : decode cX7_piece 21 = .ok (.invokevirtual 81, 3) := by decide +kernel
theorem dX7_piece_24 : decode cX7_piece 24 = .ok (.ireturn, 1) := by decide +kernel
theorem dX7_piece_25 : decode cX7_piece 25 = .ok (.aload_n 0, 1) := by decide +kernel
theorem dX7_piece_26 : decode cX7_piece 26 = .ok (.getfield 7, 3) := by decide +kernel
theorem dX7_piece_29 : decode cX7_piece 29 = .ok (.bipush 6, 2) := by decide +kernel
theorem dX7_piece_31 : decode cX7_piece 31 = .ok (.if_icmp .eq 12, 3) := by decide +kernel
theorem dX7_piece_34 : decode cX7_piece 34 = .ok (.aload_n 0, 1) := by decide +kernel
theorem dX7_piece_35 : decode cX7_piece 35 = .ok (.getfield 13, 3) := by decide +kernel
theorem dX7_piece_38 : decode cX7_piece 38 = .ok (.bipush 40, 2) := by decide +kernel
theorem dX7_piece_40 : decode cX7_piece 40 = .ok (.if_icmp .ne 9, 3) := by decide +kernel
theorem dX7_piece_43 : decode cX7_piece 43 = .ok (.aload_n 0, 1) := by decide +kernel
theorem dX7_piece_44 : decode cX7_piece 44 = .ok (.iconst 2, 1) := by decide +kernel
theorem dX7_piece_45 : decode cX7_piece 45 = .ok (.invokevirtual 81, 3) := by decide +kernel
theorem dX7_piece_48 : decode cX7_piece 48 = .ok (.ireturn, 1) := by decide +kernel
theorem dX7_piece_49 : decode cX7_piece 49 = .ok (.aload_n 0, 1) := by decide +kernel
theorem dX7_piece_50 : decode cX7_piece 50 = .ok (.getfield 25, 3) := by decide +kernel
theorem dX7_piece_53 : decode cX7_piece 53 = .ok (.aload_n 0, 1) := by decide +kernel
theorem dX7_piece_54 : decode cX7_piece 54 = .ok (.getfield 7, 3) := by decide +kernel
theorem dX7_piece_57 : decode cX7_piece 57 = .ok (.iload_n 1, 1) := by decide +kernel
theorem dX7_piece_58 : decode cX7_piece 58 = .ok (.iastore, 1) := by decide +kernel
theorem dX7_piece_59 : decode cX7_piece 59 = .ok (.aload_n 0, 1) := by decide +kernel
theorem dX7_piece_60 : decode cX7_piece 60 = .ok (.getfield 29, 3) := by decide +kernel
theorem dX7_piece_63 : decode cX7_piece 63 = .ok (.aload_n 0, 1) := by decide +kernel
theorem dX7_piece_64 : decode cX7_piece 64 = .ok (.getfield 7, 3) := by decide +kernel
theorem dX7_piece_67 : decode cX7_piece 67 = .ok (.iload_n 2, 1) := by decide +kernel
theorem dX7_piece_68 : decode cX7_piece 68 = .ok (.iastore, 1) := by decide +kernel
theorem dX7_piece_69 : decode cX7_piece 69 = .ok (.iconst 0, 1) := by decide +kernel
theorem dX7_piece_70 : decode cX7_piece 70 = .ok (.istore_n 3, 1) := by decide +kernel
theorem dX7_piece_71 : decode cX7_piece 71 = .ok (.iload_n 3, 1) := by decide +kernel
theorem dX7_piece_72 : decode cX7_piece 72 = .ok (.iconst 4, 1) := by decide +kernel
theorem dX7_piece_73 : decode cX7_piece 73 = .ok (.if_icmp .ge 24, 3) := by decide +kernel
theorem dX7_piece_76 : decode cX7_piece 76 = .ok (.aload_n 0, 1) := by decide +kernel
theorem dX7_piece_77 : decode cX7_piece 77 = .ok (.getfield 35, 3) := by decide +kernel
theorem dX7_piece_80 : decode cX7_piece 80 = .ok (.iconst 4, 1) := by decide +kernel
theorem dX7_piece_81 : decode cX7_piece 81 = .ok (.aload_n 0, 1) := by decide +kernel
theorem dX7_piece_82 : decode cX7_piece 82 = .ok (.getfield 7, 3) := by decide +kernel
theorem dX7_piece_85 : decode cX7_piece 85 = .ok (.imul, 1) := by decide +kernel
theorem dX7_piece_86 : decode cX7_piece 86 = .ok (.iload_n 3, 1) := by decide +kernel
theorem dX7_piece_87 : decode cX7_piece 87 = .ok (.iadd, 1) := by decide +kernel
theorem dX7_piece_88 : decode cX7_piece 88 = .ok (.bipush 98, 2) := by decide +kernel
theorem dX7_piece_90 : decode cX7_piece 90 = .ok (.castore, 1) := by decide +kernel
theorem dX7_piece_91 : decode cX7_piece 91 = .ok (.iinc 3 1, 3) := by decide +kernel
theorem dX7_piece_94 : decode cX7_piece 94 = .ok (.goto (-23), 3) := by decide +kernel
theorem dX7_piece_97 : decode cX7_piece 97 = .ok (.aload_n 0, 1) := by decide +kernel
theorem dX7_piece_98 : decode cX7_piece 98 = .ok (.dup, 1) := by decide +kernel
theorem dX7_piece_99 : decode cX7_piece 99 = .ok (.getfield 7, 3) := by decide +kernel
theorem dX7_piece_102 : decode cX7_piece 102 = .ok (.iconst 1, 1) := by decide +kernel
theorem dX7_piece_103 : decode cX7_piece 103 = .ok (.iadd, 1) := by decide +kernel
theorem dX7_piece_104 : decode cX7_piece 104 = .ok (.putfield 7, 3) := by decide +kernel
theorem dX7_piece_107 : decode cX7_piece 107 = .ok (.aload_n 0, 1) := by decide +kernel
theorem dX7_piece_108 : decode cX7_piece 108 = .ok (.aload_n 0, 1) := by decide +kernel
theorem dX7_piece_109 : decode cX7_piece 109 = .ok (.getfield 7, 3) := by decide +kernel
theorem dX7_piece_112 : decode cX7_piece 112 = .ok (.iconst 1, 1) := by decide +kernel
theorem dX7_piece_113 : decode cX7_piece 113 = .ok (.isub, 1) := by decide +kernel
theorem dX7_piece_114 : decode cX7_piece 114 = .ok (.iconst (-1), 1) := by decide +kernel
theorem dX7_piece_115 : decode cX7_piece 115 = .ok (.iconst (-1), 1) := by decide +kernel
theorem dX7_piece_116 : decode cX7_piece 116 = .ok (.invokevirtual 85, 3) := by decide +kernel
theorem dX7_piece_119 : decode cX7_piece 119 = .ok (.istore_n 3, 1) := by decide +kernel
theorem dX7_piece_120 : decode cX7_piece 120 = .ok (.aload_n 0, 1) := by decide +kernel
theorem dX7_piece_121 : decode cX7_piece 121 = .ok (.getfield 32, 3) := by decide +kernel
theorem dX7_piece_124 : decode cX7_piece 124 = .ok (.aload_n 0, 1) := by decide +kernel
theorem dX7_piece_125 : decode cX7_piece 125 = .ok (.getfield 7, 3) := by decide +kernel
theorem dX7_piece_128 : decode cX7_piece 128 = .ok (.iconst 1, 1) := by decide +kernel
theorem dX7_piece_129 : decode cX7_piece 129 = .ok (.isub, 1) := by decide +kernel
theorem dX7_piece_130 : decode cX7_piece 130 = .ok (.iload_n 3, 1) := by decide +kernel
theorem dX7_piece_131 : decode cX7_piece 131 = .ok (.iastore, 1) := by decide +kernel
theorem dX7_piece_132 : decode cX7_piece 132 = .ok (.iconst 0, 1) := by decide +kernel
theorem dX7_piece_133 : decode cX7_piece 133 = .ok (.istore 4, 2) := by decide +kernel
theorem dX7_piece_135 : decode cX7_piece 135 = .ok (.iload 4, 2) := by decide +kernel
theorem dX7_piece_137 : decode cX7_piece 137 = .ok (.iload_n 1, 1) := by decide +kernel
theorem dX7_piece_138 : decode cX7_piece 138 = .ok (.iload_n 2, 1) := by decide +kernel
theorem dX7_piece_139 : decode cX7_piece 139 = .ok (.imul, 1) := by decide +kernel
theorem dX7_piece_140 : decode cX7_piece 140 = .ok (.if_icmp .ge 22, 3) := by decide +kernel
theorem dX7_piece_143 : decode cX7_piece 143 = .ok (.aload_n 0, 1) := by decide +kernel
theorem dX7_piece_144 : decode cX7_piece 144 = .ok (.getfield 49, 3) := by decide +kernel
theorem dX7_piece_147 : decode cX7_piece 147 = .ok (.aload_n 0, 1) := by decide +kernel
theorem dX7_piece_148 : decode cX7_piece 148 = .ok (.iload_n 3, 1) := by decide +kernel
theorem dX7_piece_149 : decode cX7_piece 149 = .ok (.iload 4, 2) := by decide +kernel
theorem dX7_piece_151 : decode cX7_piece 151 = .ok (.invokevirtual 89, 3) := by decide +kernel
theorem dX7_piece_154 : decode cX7_piece 154 = .ok (.iconst 1, 1) := by decide +kernel
theorem dX7_piece_155 : decode cX7_piece 155 = .ok (.iastore, 1) := by decide +kernel
theorem dX7_piece_156 : decode cX7_piece 156 = .ok (.iinc 4 1, 3) := by decide +kernel
theorem dX7_piece_159 : decode cX7_piece 159 = .ok (.goto (-24), 3) := by decide +kernel
theorem dX7_piece_162 : decode cX7_piece 162 = .ok (.aload_n 0, 1) := by decide +kernel
theorem dX7_piece_163 : decode cX7_piece 163 = .ok (.aload_n 0, 1) := by decide +kernel
theorem dX7_piece_164 : decode cX7_piece 164 = .ok (.getfield 7, 3) := by decide +kernel
theorem dX7_piece_167 : decode cX7_piece 167 = .ok (.iconst 1, 1) := by decide +kernel
theorem dX7_piece_168 : decode cX7_piece 168 = .ok (.isub, 1) := by decide +kernel
theorem dX7_piece_169 : decode cX7_piece 169 = .ok (.invokevirtual 93, 3) := by decide +kernel
theorem dX7_piece_172 : decode cX7_piece 172 = .ok (.ireturn, 1) := by decide +kernel
theorem dX7_firstOf_0 : decode cX7_firstOf 0 = .ok (.aload_n 0, 1) := by decide +kernel
theorem dX7_firstOf_1 : decode cX7_firstOf 1 = .ok (.iload_n 1, 1) := by decide +kernel
theorem dX7_firstOf_2 : decode cX7_firstOf 2 = .ok (.invokevirtual 96, 3) := by decide +kernel
theorem dX7_firstOf_5 : decode cX7_firstOf 5 = .ok (.ifCond .eq 16, 3) := by decide +kernel
theorem dX7_firstOf_8 : decode cX7_firstOf 8 = .ok (.aload_n 0, 1) := by decide +kernel
theorem dX7_firstOf_9 : decode cX7_firstOf 9 = .ok (.aload_n 0, 1) := by decide +kernel
theorem dX7_firstOf_10 : decode cX7_firstOf 10 = .ok (.getfield 32, 3) := by decide +kernel
theorem dX7_firstOf_13 : decode cX7_firstOf 13 = .ok (.iload_n 1, 1) := by decide +kernel
theorem dX7_firstOf_14 : decode cX7_firstOf 14 = .ok (.iaload, 1) := by decide +kernel
theorem dX7_firstOf_15 : decode cX7_firstOf 15 = .ok (.invokevirtual 93, 3) := by decide +kernel
theorem dX7_firstOf_18 : decode cX7_firstOf 18 = .ok (.goto 8, 3) := by decide +kernel
theorem dX7_firstOf_21 : decode cX7_firstOf 21 = .ok (.aload_n 0, 1) := by decide +kernel
theorem dX7_firstOf_22 : decode cX7_firstOf 22 = .ok (.iconst 1, 1) := by decide +kernel
theorem dX7_firstOf_23 : decode cX7_firstOf 23 = .ok (.invokevirtual 81, 3) := by decide +kernel
theorem dX7_firstOf_26 : decode cX7_firstOf 26 = .ok (.ireturn, 1) := by decide +kernel
theorem dX7_pieceOf_0 : decode cX7_pieceOf 0 = .ok (.aload_n 0, 1) := by decide +kernel
theorem dX7_pieceOf_1 : decode cX7_pieceOf 1 = .ok (.iload_n 1, 1) := by decide +kernel
theorem dX7_pieceOf_2 : decode cX7_pieceOf 2 = .ok (.invokevirtual 100, 3) := by decide +kernel
theorem dX7_pieceOf_5 : decode cX7_pieceOf 5 = .ok (.ifCond .eq 16, 3) := by decide +kernel
theorem dX7_pieceOf_8 : decode cX7_pieceOf 8 = .ok (.aload_n 0, 1) := by decide +kernel
theorem dX7_pieceOf_9 : decode cX7_pieceOf 9 = .ok (.aload_n 0, 1) := by decide +kernel
theorem dX7_pieceOf_10 : decode cX7_pieceOf 10 = .ok (.getfield 39, 3) := by decide +kernel
theorem dX7_pieceOf_13 : decode cX7_pieceOf 13 = .ok (.iload_n 1, 1) := by decide +kernel
theorem dX7_pieceOf_14 : decode cX7_pieceOf 14 = .ok (.iaload, 1) := by decide +kernel
theorem dX7_pieceOf_15 : decode cX7_pieceOf 15 = .ok (.invokevirtual 93, 3) := by decide +kernel
theorem dX7_pieceOf_18 : decode cX7_pieceOf 18 = .ok (.goto 8, 3) := by decide +kernel
theorem dX7_pieceOf_21 : decode cX7_pieceOf 21 = .ok (.aload_n 0, 1) := by decide +kernel
theorem dX7_pieceOf_22 : decode cX7_pieceOf 22 = .ok (.iconst 1, 1) := by decide +kernel
theorem dX7_pieceOf_23 : decode cX7_pieceOf 23 = .ok (.invokevirtual 81, 3) := by decide +kernel
theorem dX7_pieceOf_26 : decode cX7_pieceOf 26 = .ok (.ireturn, 1) := by decide +kernel
theorem dX7_note_0 : decode cX7_note 0 = .ok (.iload_n 1, 1) := by decide +kernel
theorem dX7_note_1 : decode cX7_note 1 = .ok (.iconst 0, 1) := by decide +kernel
theorem dX7_note_2 : decode cX7_note 2 = .ok (.bipush 99, 2) := by decide +kernel
theorem dX7_note_4 : decode cX7_note 4 = .ok (.invokestatic 77, 3) := by decide +kernel
theorem dX7_note_7 : decode cX7_note 7 = .ok (.ifCond .ne 9, 3) := by decide +kernel
theorem dX7_note_10 : decode cX7_note 10 = .ok (.aload_n 0, 1) := by decide +kernel
theorem dX7_note_11 : decode cX7_note 11 = .ok (.iconst 1, 1) := by decide +kernel
theorem dX7_note_12 : decode cX7_note 12 = .ok (.invokevirtual 81, 3) := by decide +kernel
theorem dX7_note_15 : decode cX7_note 15 = .ok (.ireturn, 1) := by decide +kernel
theorem dX7_note_16 : decode cX7_note 16 = .ok (.aload_n 0, 1) := by decide +kernel
theorem dX7_note_17 : decode cX7_note 17 = .ok (.getfield 16, 3) := by decide +kernel
theorem dX7_note_20 : decode cX7_note 20 = .ok (.bipush 8, 2) := by decide +kernel
theorem dX7_note_22 : decode cX7_note 22 = .ok (.if_icmp .ne 9, 3) := by decide +kernel
theorem dX7_note_25 : decode cX7_note 25 = .ok (.aload_n 0, 1) := by decide +kernel
theorem dX7_note_26 : decode cX7_note 26 = .ok (.iconst 2, 1) := by decide +kernel
theorem dX7_note_27 : decode cX7_note 27 = .ok (.invokevirtual 81, 3) := by decide +kernel
theorem dX7_note_30 : decode cX7_note 30 = .ok (.ireturn, 1) := by decide +kernel
theorem dX7_note_31 : decode cX7_note 31 = .ok (.aload_n 0, 1) := by decide +kernel
theorem dX7_note_32 : decode cX7_note 32 = .ok (.getfield 52, 3) := by decide +kernel
theorem dX7_note_35 : decode cX7_note 35 = .ok (.aload_n 0, 1) := by decide +kernel
theorem dX7_note_36 : decode cX7_note 36 = .ok (.getfield 16, 3) := by decide +kernel
theorem dX7_note_39 : decode cX7_note 39 = .ok (.iload_n 1, 1) := by decide +kernel
theorem dX7_note_40 : decode cX7_note 40 = .ok (.iastore, 1) := by decide +kernel
theorem dX7_note_41 : decode cX7_note 41 = .ok (.aload_n 0, 1) := by decide +kernel
theorem dX7_note_42 : decode cX7_note 42 = .ok (.dup, 1) := by decide +kernel
theorem dX7_note_43 : decode cX7_note 43 = .ok (.getfield 16, 3) := by decide +kernel
theorem dX7_note_46 : decode cX7_note 46 = .ok (.iconst 1, 1) := by decide +kernel
theorem dX7_note_47 : decode cX7_note 47 = .ok (.iadd, 1) := by decide +kernel
theorem dX7_note_48 : decode cX7_note 48 = .ok (.putfield 16, 3) := by decide +kernel
theorem dX7_note_51 : decode cX7_note 51 = .ok (.aload_n 0, 1) := by decide +kernel
theorem dX7_note_52 : decode cX7_note 52 = .ok (.aload_n 0, 1) := by decide +kernel
theorem dX7_note_53 : decode cX7_note 53 = .ok (.getfield 16, 3) := by decide +kernel
theorem dX7_note_56 : decode cX7_note 56 = .ok (.invokevirtual 93, 3) := by decide +kernel
theorem dX7_note_59 : decode cX7_note 59 = .ok (.ireturn, 1) := by decide +kernel
theorem dX7_wipe_0 : decode cX7_wipe 0 = .ok (.aload_n 0, 1) := by decide +kernel
theorem dX7_wipe_1 : decode cX7_wipe 1 = .ok (.getfield 16, 3) := by decide +kernel
theorem dX7_wipe_4 : decode cX7_wipe 4 = .ok (.istore_n 1, 1) := by decide +kernel
theorem dX7_wipe_5 : decode cX7_wipe 5 = .ok (.aload_n 0, 1) := by decide +kernel
theorem dX7_wipe_6 : decode cX7_wipe 6 = .ok (.iconst 0, 1) := by decide +kernel
theorem dX7_wipe_7 : decode cX7_wipe 7 = .ok (.putfield 16, 3) := by decide +kernel
theorem dX7_wipe_10 : decode cX7_wipe 10 = .ok (.aload_n 0, 1) := by decide +kernel
theorem dX7_wipe_11 : decode cX7_wipe 11 = .ok (.iload_n 1, 1) := by decide +kernel
theorem dX7_wipe_12 : decode cX7_wipe 12 = .ok (.invokevirtual 93, 3) := by decide +kernel
theorem dX7_wipe_15 : decode cX7_wipe 15 = .ok (.ireturn, 1) := by decide +kernel
theorem dX7_isSheaf_0 : decode cX7_isSheaf 0 = .ok (.aload_n 0, 1) := by decide +kernel
theorem dX7_isSheaf_1 : decode cX7_isSheaf 1 = .ok (.iload_n 1, 1) := by decide +kernel
theorem dX7_isSheaf_2 : decode cX7_isSheaf 2 = .ok (.invokevirtual 100, 3) := by decide +kernel
theorem dX7_isSheaf_5 : decode cX7_isSheaf 5 = .ok (.ifCond .eq 49, 3) := by decide +kernel
theorem dX7_isSheaf_8 : decode cX7_isSheaf 8 = .ok (.iload_n 2, 1) := by decide +kernel
theorem dX7_isSheaf_9 : decode cX7_isSheaf 9 = .ok (.iconst 0, 1) := by decide +kernel
theorem dX7_isSheaf_10 : decode cX7_isSheaf 10 = .ok (.aload_n 0, 1) := by decide +kernel
theorem dX7_isSheaf_11 : decode cX7_isSheaf 11 = .ok (.getfield 25, 3) := by decide +kernel
theorem dX7_isSheaf_14 : decode cX7_isSheaf 14 = .ok (.aload_n 0, 1) := by decide +kernel
theorem dX7_isSheaf_15 : decode cX7_isSheaf 15 = .ok (.getfield 39, 3) := by decide +kernel
theorem dX7_isSheaf_18 : decode cX7_isSheaf 18 = .ok (.iload_n 1, 1) := by decide +kernel
theorem dX7_isSheaf_19 : decode cX7_isSheaf 19 = .ok (.iaload, 1) := by decide +kernel
theorem dX7_isSheaf_20 : decode cX7_isSheaf 20 = .ok (.iaload, 1) := by decide +kernel
theorem dX7_isSheaf_21 : decode cX7_isSheaf 21 = .ok (.iconst 1, 1) := by decide +kernel
theorem dX7_isSheaf_22 : decode cX7_isSheaf 22 = .ok (.isub, 1) := by decide +kernel
theorem dX7_isSheaf_23 : decode cX7_isSheaf 23 = .ok (.invokestatic 77, 3) := by decide +kernel
theorem dX7_isSheaf_26 : decode cX7_isSheaf 26 = .ok (.ifCond .eq 28, 3) := by decide +kernel
theorem dX7_isSheaf_29 : decode cX7_isSheaf 29 = .ok (.iload_n 3, 1) := by decide +kernel
theorem dX7_isSheaf_30 : decode cX7_isSheaf 30 = .ok (.iconst 0, 1) := by decide +kernel
theorem dX7_isSheaf_31 : decode cX7_isSheaf 31 = .ok (.aload_n 0, 1) := by decide +kernel
theorem dX7_isSheaf_32 : decode cX7_isSheaf 32 = .ok (.getfield 29, 3) := by decide +kernel
theorem dX7_isSheaf_35 : decode cX7_isSheaf 35 = .ok (.aload_n 0, 1) := by decide +kernel
theorem dX7_isSheaf_36 : decode cX7_isSheaf 36 = .ok (.getfield 39, 3) := by decide +kernel
theorem dX7_isSheaf_39 : decode cX7_isSheaf 39 = .ok (.iload_n 1, 1) := by decide +kernel
theorem dX7_isSheaf_40 : decode cX7_isSheaf 40 = .ok (.iaload, 1) := by decide +kernel
theorem dX7_isSheaf_41 : decode cX7_isSheaf 41 = .ok (.iaload, 1) := by decide +kernel
theorem dX7_isSheaf_42 : decode cX7_isSheaf 42 = .ok (.iconst 1, 1) := by decide +kernel
theorem dX7_isSheaf_43 : decode cX7_isSheaf 43 = .ok (.isub, 1) := by decide +kernel
theorem dX7_isSheaf_44 : decode cX7_isSheaf 44 = .ok (.invokestatic 77, 3) := by decide +kernel
theorem dX7_isSheaf_47 : decode cX7_isSheaf 47 = .ok (.ifCond .eq 7, 3) := by decide +kernel
theorem dX7_isSheaf_50 : decode cX7_isSheaf 50 = .ok (.iconst 1, 1) := by decide +kernel
theorem dX7_isSheaf_51 : decode cX7_isSheaf 51 = .ok (.goto 4, 3) := by decide +kernel
theorem dX7_isSheaf_54 : decode cX7_isSheaf 54 = .ok (.iconst 0, 1) := by decide +kernel
theorem dX7_isSheaf_55 : decode cX7_isSheaf 55 = .ok (.ireturn, 1) := by decide +kernel
theorem dX7_copies_0 : decode cX7_copies 0 = .ok (.iconst 0, 1) := by decide +kernel
theorem dX7_copies_1 : decode cX7_copies 1 = .ok (.istore_n 3, 1) := by decide +kernel
theorem dX7_copies_2 : decode cX7_copies 2 = .ok (.iload_n 3, 1) := by decide +kernel
theorem dX7_copies_3 : decode cX7_copies 3 = .ok (.bipush 41, 2) := by decide +kernel
theorem dX7_copies_5 : decode cX7_copies 5 = .ok (.if_icmp .ge 25, 3) := by decide +kernel
theorem dX7_copies_8 : decode cX7_copies 8 = .ok (.aload_n 0, 1) := by decide +kernel
theorem dX7_copies_9 : decode cX7_copies 9 = .ok (.getfield 49, 3) := by decide +kernel
theorem dX7_copies_12 : decode cX7_copies 12 = .ok (.iload_n 2, 1) := by decide +kernel
theorem dX7_copies_13 : decode cX7_copies 13 = .ok (.iload_n 3, 1) := by decide +kernel
theorem dX7_copies_14 : decode cX7_copies 14 = .ok (.iadd, 1) := by decide +kernel
theorem dX7_copies_15 : decode cX7_copies 15 = .ok (.aload_n 0, 1) := by decide +kernel
theorem dX7_copies_16 : decode cX7_copies 16 = .ok (.getfield 49, 3) := by decide +kernel
theorem dX7_copies_19 : decode cX7_copies 19 = .ok (.iload_n 1, 1) := by decide +kernel
theorem dX7_copies_20 : decode cX7_copies 20 = .ok (.iload_n 3, 1) := by decide +kernel
theorem dX7_copies_21 : decode cX7_copies 21 = .ok (.iadd, 1) := by decide +kernel
theorem dX7_copies_22 : decode cX7_copies 22 = .ok (.iaload, 1) := by decide +kernel
theorem dX7_copies_23 : decode cX7_copies 23 = .ok (.iastore, 1) := by decide +kernel
theorem dX7_copies_24 : decode cX7_copies 24 = .ok (.iinc 3 1, 3) := by decide +kernel
theorem dX7_copies_27 : decode cX7_copies 27 = .ok (.goto (-25), 3) := by decide +kernel
theorem dX7_copies_30 : decode cX7_copies 30 = .ok (.return_, 1) := by decide +kernel
theorem dX7_write_0 : decode cX7_write 0 = .ok (.aload_n 0, 1) := by decide +kernel
theorem dX7_write_1 : decode cX7_write 1 = .ok (.iload_n 1, 1) := by decide +kernel
theorem dX7_write_2 : decode cX7_write 2 = .ok (.iload_n 3, 1) := by decide +kernel
theorem dX7_write_3 : decode cX7_write 3 = .ok (.iload 4, 2) := by decide +kernel
theorem dX7_write_5 : decode cX7_write 5 = .ok (.invokevirtual 103, 3) := by decide +kernel
theorem dX7_write_8 : decode cX7_write 8 = .ok (.ifCond .ne 9, 3) := by decide +kernel
theorem dX7_write_11 : decode cX7_write 11 = .ok (.aload_n 0, 1) := by decide +kernel
theorem dX7_write_12 : decode cX7_write 12 = .ok (.iconst 1, 1) := by decide +kernel
theorem dX7_write_13 : decode cX7_write 13 = .ok (.invokevirtual 81, 3) := by decide +kernel
theorem dX7_write_16 : decode cX7_write 16 = .ok (.ireturn, 1) := by decide +kernel
theorem dX7_write_17 : decode cX7_write 17 = .ok (.iload_n 2, 1) := by decide +kernel
theorem dX7_write_18 : decode cX7_write 18 = .ok (.iconst 0, 1) := by decide +kernel
theorem dX7_write_19 : decode cX7_write 19 = .ok (.iconst 5, 1) := by decide +kernel
theorem dX7_write_20 : decode cX7_write 20 = .ok (.invokestatic 77, 3) := by decide +kernel
theorem dX7_write_23 : decode cX7_write 23 = .ok (.ifCond .ne 9, 3) := by decide +kernel
theorem dX7_write_26 : decode cX7_write 26 = .ok (.aload_n 0, 1) := by decide +kernel
theorem dX7_write_27 : decode cX7_write 27 = .ok (.iconst 2, 1) := by decide +kernel
theorem dX7_write_28 : decode cX7_write 28 = .ok (.invokevirtual 81, 3) := by decide +kernel
theorem dX7_write_31 : decode cX7_write 31 = .ok (.ireturn, 1) := by decide +kernel
theorem dX7_write_32 : decode cX7_write 32 = .ok (.aload_n 0, 1) := by decide +kernel
theorem dX7_write_33 : decode cX7_write 33 = .ok (.getfield 13, 3) := by decide +kernel
theorem dX7_write_36 : decode cX7_write 36 = .ok (.bipush 40, 2) := by decide +kernel
theorem dX7_write_38 : decode cX7_write 38 = .ok (.if_icmp .ne 9, 3) := by decide +kernel
theorem dX7_write_41 : decode cX7_write 41 = .ok (.aload_n 0, 1) := by decide +kernel
theorem dX7_write_42 : decode cX7_write 42 = .ok (.iconst 3, 1) := by decide +kernel
theorem dX7_write_43 : decode cX7_write 43 = .ok (.invokevirtual 81, 3) := by decide +kernel
theorem dX7_write_46 : decode cX7_write 46 = .ok (.ireturn, 1) := by decide +kernel
theorem dX7_write_47 : decode cX7_write 47 = .ok (.aload_n 0, 1) := by decide +kernel
theorem dX7_write_48 : decode cX7_write 48 = .ok (.aload_n 0, 1) := by decide +kernel
theorem dX7_write_49 : decode cX7_write 49 = .ok (.getfield 39, 3) := by decide +kernel
theorem dX7_write_52 : decode cX7_write 52 = .ok (.iload_n 1, 1) := by decide +kernel
theorem dX7_write_53 : decode cX7_write 53 = .ok (.iaload, 1) := by decide +kernel
theorem dX7_write_54 : decode cX7_write 54 = .ok (.iload_n 1, 1) := by decide +kernel
theorem dX7_write_55 : decode cX7_write 55 = .ok (.iconst (-1), 1) := by decide +kernel
theorem dX7_write_56 : decode cX7_write 56 = .ok (.invokevirtual 85, 3) := by decide +kernel
theorem dX7_write_59 : decode cX7_write 59 = .ok (.istore 5, 2) := by decide +kernel
theorem dX7_write_61 : decode cX7_write 61 = .ok (.iconst 0, 1) := by decide +kernel
theorem dX7_write_62 : decode cX7_write 62 = .ok (.istore 6, 2) := by decide +kernel
theorem dX7_write_64 : decode cX7_write 64 = .ok (.iload 6, 2) := by decide +kernel
theorem dX7_write_66 : decode cX7_write 66 = .ok (.aload_n 0, 1) := by decide +kernel
theorem dX7_write_67 : decode cX7_write 67 = .ok (.aload_n 0, 1) := by decide +kernel
theorem dX7_write_68 : decode cX7_write 68 = .ok (.getfield 39, 3) := by decide +kernel
theorem dX7_write_71 : decode cX7_write 71 = .ok (.iload_n 1, 1) := by decide +kernel
theorem dX7_write_72 : decode cX7_write 72 = .ok (.iaload, 1) := by decide +kernel
theorem dX7_write_73 : decode cX7_write 73 = .ok (.invokevirtual 106, 3) := by decide +kernel
theorem dX7_write_76 : decode cX7_write 76 = .ok (.if_icmp .ge 28, 3) := by decide +kernel
theorem dX7_write_79 : decode cX7_write 79 = .ok (.aload_n 0, 1) := by decide +kernel
theorem dX7_write_80 : decode cX7_write 80 = .ok (.aload_n 0, 1) := by decide +kernel
theorem dX7_write_81 : decode cX7_write 81 = .ok (.iload_n 1, 1) := by decide +kernel
theorem dX7_write_82 : decode cX7_write 82 = .ok (.iload 6, 2) := by decide +kernel
theorem dX7_write_84 : decode cX7_write 84 = .ok (.invokevirtual 89, 3) := by decide +kernel
theorem dX7_write_87 : decode cX7_write 87 = .ok (.aload_n 0, 1) := by decide +kernel
theorem dX7_write_88 : decode cX7_write 88 = .ok (.iload 5, 2) := by decide +kernel
theorem dX7_write_90 : decode cX7_write 90 = .ok (.iload 6, 2) := by decide +kernel
theorem dX7_write_92 : decode cX7_write 92 = .ok (.invokevirtual 89, 3) := by decide +kernel
theorem dX7_write_95 : decode cX7_write 95 = .ok (.invokevirtual 109, 3) := by decide +kernel
theorem dX7_write_98 : decode cX7_write 98 = .ok (.iinc 6 1, 3) := by decide +kernel
theorem dX7_write_101 : decode cX7_write 101 = .ok (.goto (-37), 3) := by decide +kernel
theorem dX7_write_104 : decode cX7_write 104 = .ok (.aload_n 0, 1) := by decide +kernel
theorem dX7_write_105 : decode cX7_write 105 = .ok (.iload 5, 2) := by decide +kernel
theorem dX7_write_107 : decode cX7_write 107 = .ok (.iload_n 3, 1) := by decide +kernel
theorem dX7_write_108 : decode cX7_write 108 = .ok (.iload 4, 2) := by decide +kernel
theorem dX7_write_110 : decode cX7_write 110 = .ok (.invokevirtual 113, 3) := by decide +kernel
theorem dX7_write_113 : decode cX7_write 113 = .ok (.istore 6, 2) := by decide +kernel
theorem dX7_write_115 : decode cX7_write 115 = .ok (.aload_n 0, 1) := by decide +kernel
theorem dX7_write_116 : decode cX7_write 116 = .ok (.getfield 49, 3) := by decide +kernel
theorem dX7_write_119 : decode cX7_write 119 = .ok (.iload 6, 2) := by decide +kernel
theorem dX7_write_121 : decode cX7_write 121 = .ok (.iconst 1, 1) := by decide +kernel
theorem dX7_write_122 : decode cX7_write 122 = .ok (.iastore, 1) := by decide +kernel
theorem dX7_write_123 : decode cX7_write 123 = .ok (.aload_n 0, 1) := by decide +kernel
theorem dX7_write_124 : decode cX7_write 124 = .ok (.getfield 49, 3) := by decide +kernel
theorem dX7_write_127 : decode cX7_write 127 = .ok (.iload 6, 2) := by decide +kernel
theorem dX7_write_129 : decode cX7_write 129 = .ok (.iconst 1, 1) := by decide +kernel
theorem dX7_write_130 : decode cX7_write 130 = .ok (.iadd, 1) := by decide +kernel
theorem dX7_write_131 : decode cX7_write 131 = .ok (.iload_n 2, 1) := by decide +kernel
theorem dX7_write_132 : decode cX7_write 132 = .ok (.iastore, 1) := by decide +kernel
theorem dX7_write_133 : decode cX7_write 133 = .ok (.aload_n 0, 1) := by decide +kernel
theorem dX7_write_134 : decode cX7_write 134 = .ok (.getfield 49, 3) := by decide +kernel
theorem dX7_write_137 : decode cX7_write 137 = .ok (.iload 6, 2) := by decide +kernel
theorem dX7_write_139 : decode cX7_write 139 = .ok (.iconst 2, 1) := by decide +kernel
theorem dX7_write_140 : decode cX7_write 140 = .ok (.iadd, 1) := by decide +kernel
theorem dX7_write_141 : decode cX7_write 141 = .ok (.aload_n 0, 1) := by decide +kernel
theorem dX7_write_142 : decode cX7_write 142 = .ok (.getfield 16, 3) := by decide +kernel
theorem dX7_write_145 : decode cX7_write 145 = .ok (.iastore, 1) := by decide +kernel
theorem dX7_write_146 : decode cX7_write 146 = .ok (.iconst 0, 1) := by decide +kernel
theorem dX7_write_147 : decode cX7_write 147 = .ok (.istore 7, 2) := by decide +kernel
theorem dX7_write_149 : decode cX7_write 149 = .ok (.iload 7, 2) := by decide +kernel
theorem dX7_write_151 : decode cX7_write 151 = .ok (.aload_n 0, 1) := by decide +kernel
theorem dX7_write_152 : decode cX7_write 152 = .ok (.getfield 16, 3) := by decide +kernel
theorem dX7_write_155 : decode cX7_write 155 = .ok (.if_icmp .ge 28, 3) := by decide +kernel
theorem dX7_write_158 : decode cX7_write 158 = .ok (.aload_n 0, 1) := by decide +kernel
theorem dX7_write_159 : decode cX7_write 159 = .ok (.getfield 49, 3) := by decide +kernel
theorem dX7_write_162 : decode cX7_write 162 = .ok (.iload 6, 2) := by decide +kernel
theorem dX7_write_164 : decode cX7_write 164 = .ok (.iconst 3, 1) := by decide +kernel
theorem dX7_write_165 : decode cX7_write 165 = .ok (.iadd, 1) := by decide +kernel
theorem dX7_write_166 : decode cX7_write 166 = .ok (.iload 7, 2) := by decide +kernel
theorem dX7_write_168 : decode cX7_write 168 = .ok (.iadd, 1) := by decide +kernel
theorem dX7_write_169 : decode cX7_write 169 = .ok (.aload_n 0, 1) := by decide +kernel
theorem dX7_write_170 : decode cX7_write 170 = .ok (.getfield 52, 3) := by decide +kernel
theorem dX7_write_173 : decode cX7_write 173 = .ok (.iload 7, 2) := by decide +kernel
theorem dX7_write_175 : decode cX7_write 175 = .ok (.iaload, 1) := by decide +kernel
theorem dX7_write_176 : decode cX7_write 176 = .ok (.iastore, 1) := by decide +kernel
theorem dX7_write_177 : decode cX7_write 177 = .ok (.iinc 7 1, 3) := by decide +kernel
theorem dX7_write_180 : decode cX7_write 180 = .ok (.goto (-31), 3) := by decide +kernel
theorem dX7_write_183 : decode cX7_write 183 = .ok (.aload_n 0, 1) := by decide +kernel
theorem dX7_write_184 : decode cX7_write 184 = .ok (.iconst 0, 1) := by decide +kernel
theorem dX7_write_185 : decode cX7_write 185 = .ok (.putfield 16, 3) := by decide +kernel
theorem dX7_write_188 : decode cX7_write 188 = .ok (.aload_n 0, 1) := by decide +kernel
theorem dX7_write_189 : decode cX7_write 189 = .ok (.iload 5, 2) := by decide +kernel
theorem dX7_write_191 : decode cX7_write 191 = .ok (.invokevirtual 93, 3) := by decide +kernel
theorem dX7_write_194 : decode cX7_write 194 = .ok (.ireturn, 1) := by decide +kernel
theorem dX7_rule_0 : decode cX7_rule 0 = .ok (.aload_n 0, 1) := by decide +kernel
theorem dX7_rule_1 : decode cX7_rule 1 = .ok (.iload_n 1, 1) := by decide +kernel
theorem dX7_rule_2 : decode cX7_rule 2 = .ok (.invokevirtual 96, 3) := by decide +kernel
theorem dX7_rule_5 : decode cX7_rule 5 = .ok (.ifCond .eq 23, 3) := by decide +kernel
theorem dX7_rule_8 : decode cX7_rule 8 = .ok (.iload_n 2, 1) := by decide +kernel
theorem dX7_rule_9 : decode cX7_rule 9 = .ok (.iconst 0, 1) := by decide +kernel
theorem dX7_rule_10 : decode cX7_rule 10 = .ok (.aload_n 0, 1) := by decide +kernel
theorem dX7_rule_11 : decode cX7_rule 11 = .ok (.getfield 29, 3) := by decide +kernel
theorem dX7_rule_14 : decode cX7_rule 14 = .ok (.iload_n 1, 1) := by decide +kernel
theorem dX7_rule_15 : decode cX7_rule 15 = .ok (.iaload, 1) := by decide +kernel
theorem dX7_rule_16 : decode cX7_rule 16 = .ok (.iconst 1, 1) := by decide +kernel
theorem dX7_rule_17 : decode cX7_rule 17 = .ok (.isub, 1) := by decide +kernel
theorem dX7_rule_18 : decode cX7_rule 18 = .ok (.invokestatic 77, 3) := by decide +kernel
theorem dX7_rule_21 : decode cX7_rule 21 = .ok (.ifCond .eq 7, 3) := by decide +kernel
theorem dX7_rule_24 : decode cX7_rule 24 = .ok (.iconst 1, 1) := by decide +kernel
theorem dX7_rule_25 : decode cX7_rule 25 = .ok (.goto 4, 3) := by decide +kernel
theorem dX7_rule_28 : decode cX7_rule 28 = .ok (.iconst 0, 1) := by decide +kernel
theorem dX7_rule_29 : decode cX7_rule 29 = .ok (.istore 4, 2) := by decide +kernel
theorem dX7_rule_31 : decode cX7_rule 31 = .ok (.aload_n 0, 1) := by decide +kernel
theorem dX7_rule_32 : decode cX7_rule 32 = .ok (.iload 4, 2) := by decide +kernel
theorem dX7_rule_34 : decode cX7_rule 34 = .ok (.ifCond .ne 7, 3) := by decide +kernel
theorem dX7_rule_37 : decode cX7_rule 37 = .ok (.iconst 1, 1) := by decide +kernel
theorem dX7_rule_38 : decode cX7_rule 38 = .ok (.goto 26, 3) := by decide +kernel
theorem dX7_rule_41 : decode cX7_rule 41 = .ok (.iload_n 3, 1) := by decide +kernel
theorem dX7_rule_42 : decode cX7_rule 42 = .ok (.bipush 108, 2) := by decide +kernel
theorem dX7_rule_44 : decode cX7_rule 44 = .ok (.if_icmp .eq 19, 3) := by decide +kernel
theorem dX7_rule_47 : decode cX7_rule 47 = .ok (.iload_n 3, 1) := by decide +kernel
theorem dX7_rule_48 : decode cX7_rule 48 = .ok (.bipush 110, 2) := by decide +kernel
theorem dX7_rule_50 : decode cX7_rule 50 = .ok (.if_icmp .eq 13, 3) := by decide +kernel
theorem dX7_rule_53 : decode cX7_rule 53 = .ok (.iload_n 3, 1) := by decide +kernel
theorem dX7_rule_54 : decode cX7_rule 54 = .ok (.bipush 98, 2) := by decide +kernel
theorem dX7_rule_56 : decode cX7_rule 56 = .ok (.if_icmp .eq 7, 3) := by decide +kernel
theorem dX7_rule_59 : decode cX7_rule 59 = .ok (.iconst 2, 1) := by decide +kernel
theorem dX7_rule_60 : decode cX7_rule 60 = .ok (.goto 4, 3) := by decide +kernel
theorem dX7_rule_63 : decode cX7_rule 63 = .ok (.iconst 0, 1) := by decide +kernel
theorem dX7_rule_64 : decode cX7_rule 64 = .ok (.putfield 22, 3) := by decide +kernel
theorem dX7_rule_67 : decode cX7_rule 67 = .ok (.aload_n 0, 1) := by decide +kernel
theorem dX7_rule_68 : decode cX7_rule 68 = .ok (.getfield 22, 3) := by decide +kernel
theorem dX7_rule_71 : decode cX7_rule 71 = .ok (.ifCond .le 5, 3) := by decide +kernel
theorem dX7_rule_74 : decode cX7_rule 74 = .ok (.iconst 0, 1) := by decide +kernel
theorem dX7_rule_75 : decode cX7_rule 75 = .ok (.ireturn, 1) := by decide +kernel
theorem dX7_rule_76 : decode cX7_rule 76 = .ok (.aload_n 0, 1) := by decide +kernel
theorem dX7_rule_77 : decode cX7_rule 77 = .ok (.getfield 35, 3) := by decide +kernel
theorem dX7_rule_80 : decode cX7_rule 80 = .ok (.iconst 4, 1) := by decide +kernel
theorem dX7_rule_81 : decode cX7_rule 81 = .ok (.iload_n 1, 1) := by decide +kernel
theorem dX7_rule_82 : decode cX7_rule 82 = .ok (.imul, 1) := by decide +kernel
theorem dX7_rule_83 : decode cX7_rule 83 = .ok (.iload_n 2, 1) := by decide +kernel
theorem dX7_rule_84 : decode cX7_rule 84 = .ok (.iadd, 1) := by decide +kernel
theorem dX7_rule_85 : decode cX7_rule 85 = .ok (.caload, 1) := by decide +kernel
theorem dX7_rule_86 : decode cX7_rule 86 = .ok (.istore 5, 2) := by decide +kernel
theorem dX7_rule_88 : decode cX7_rule 88 = .ok (.aload_n 0, 1) := by decide +kernel
theorem dX7_rule_89 : decode cX7_rule 89 = .ok (.getfield 35, 3) := by decide +kernel
theorem dX7_rule_92 : decode cX7_rule 92 = .ok (.iconst 4, 1) := by decide +kernel
theorem dX7_rule_93 : decode cX7_rule 93 = .ok (.iload_n 1, 1) := by decide +kernel
theorem dX7_rule_94 : decode cX7_rule 94 = .ok (.imul, 1) := by decide +kernel
theorem dX7_rule_95 : decode cX7_rule 95 = .ok (.iload_n 2, 1) := by decide +kernel
theorem dX7_rule_96 : decode cX7_rule 96 = .ok (.iadd, 1) := by decide +kernel
theorem dX7_rule_97 : decode cX7_rule 97 = .ok (.iload_n 3, 1) := by decide +kernel
theorem dX7_rule_98 : decode cX7_rule 98 = .ok (.castore, 1) := by decide +kernel
theorem dX7_rule_99 : decode cX7_rule 99 = .ok (.iload 5, 2) := by decide +kernel
theorem dX7_rule_101 : decode cX7_rule 101 = .ok (.ireturn, 1) := by decide +kernel
theorem dX7_isAboveOf_0 : decode cX7_isAboveOf 0 = .ok (.iconst 0, 1) := by decide +kernel
theorem dX7_isAboveOf_1 : decode cX7_isAboveOf 1 = .ok (.istore_n 3, 1) := by decide +kernel
theorem dX7_isAboveOf_2 : decode cX7_isAboveOf 2 = .ok (.iload_n 3, 1) := by decide +kernel
theorem dX7_isAboveOf_3 : decode cX7_isAboveOf 3 = .ok (.bipush 40, 2) := by decide +kernel
theorem dX7_isAboveOf_5 : decode cX7_isAboveOf 5 = .ok (.if_icmp .ge 25, 3) := by decide +kernel
theorem dX7_isAboveOf_8 : decode cX7_isAboveOf 8 = .ok (.aload_n 0, 1) := by decide +kernel
theorem dX7_isAboveOf_9 : decode cX7_isAboveOf 9 = .ok (.getfield 65, 3) := by decide +kernel
theorem dX7_isAboveOf_12 : decode cX7_isAboveOf 12 = .ok (.iload_n 3, 1) := by decide +kernel
theorem dX7_isAboveOf_13 : decode cX7_isAboveOf 13 = .ok (.iload_n 3, 1) := by decide +kernel
theorem dX7_isAboveOf_14 : decode cX7_isAboveOf 14 = .ok (.iload_n 2, 1) := by decide +kernel
theorem dX7_isAboveOf_15 : decode cX7_isAboveOf 15 = .ok (.if_icmp .ne 7, 3) := by decide +kernel
theorem dX7_isAboveOf_18 : decode cX7_isAboveOf 18 = .ok (.iconst 1, 1) := by decide +kernel
theorem dX7_isAboveOf_19 : decode cX7_isAboveOf 19 = .ok (.goto 4, 3) := by decide +kernel
theorem dX7_isAboveOf_22 : decode cX7_isAboveOf 22 = .ok (.iconst 0, 1) := by decide +kernel
theorem dX7_isAboveOf_23 : decode cX7_isAboveOf 23 = .ok (.bastore, 1) := by decide +kernel
theorem dX7_isAboveOf_24 : decode cX7_isAboveOf 24 = .ok (.iinc 3 1, 3) := by decide +kernel
theorem dX7_isAboveOf_27 : decode cX7_isAboveOf 27 = .ok (.goto (-25), 3) := by decide +kernel
theorem dX7_isAboveOf_30 : decode cX7_isAboveOf 30 = .ok (.iload_n 2, 1) := by decide +kernel
theorem dX7_isAboveOf_31 : decode cX7_isAboveOf 31 = .ok (.istore_n 3, 1) := by decide +kernel
theorem dX7_isAboveOf_32 : decode cX7_isAboveOf 32 = .ok (.iload_n 3, 1) := by decide +kernel
theorem dX7_isAboveOf_33 : decode cX7_isAboveOf 33 = .ok (.iload_n 1, 1) := by decide +kernel
theorem dX7_isAboveOf_34 : decode cX7_isAboveOf 34 = .ok (.if_icmp .le 71, 3) := by decide +kernel
theorem dX7_isAboveOf_37 : decode cX7_isAboveOf 37 = .ok (.aload_n 0, 1) := by decide +kernel
theorem dX7_isAboveOf_38 : decode cX7_isAboveOf 38 = .ok (.getfield 65, 3) := by decide +kernel
theorem dX7_isAboveOf_41 : decode cX7_isAboveOf 41 = .ok (.iload_n 3, 1) := by decide +kernel
theorem dX7_isAboveOf_42 : decode cX7_isAboveOf 42 = .ok (.baload, 1) := by decide +kernel
theorem dX7_isAboveOf_43 : decode cX7_isAboveOf 43 = .ok (.ifCond .eq 25, 3) := by decide +kernel
theorem dX7_isAboveOf_46 : decode cX7_isAboveOf 46 = .ok (.aload_n 0, 1) := by decide +kernel
theorem dX7_isAboveOf_47 : decode cX7_isAboveOf 47 = .ok (.getfield 42, 3) := by decide +kernel
theorem dX7_isAboveOf_50 : decode cX7_isAboveOf 50 = .ok (.iload_n 3, 1) := by decide +kernel
theorem dX7_isAboveOf_51 : decode cX7_isAboveOf 51 = .ok (.iaload, 1) := by decide +kernel
theorem dX7_isAboveOf_52 : decode cX7_isAboveOf 52 = .ok (.iconst (-1), 1) := by decide +kernel
theorem dX7_isAboveOf_53 : decode cX7_isAboveOf 53 = .ok (.if_icmp .eq 15, 3) := by decide +kernel
theorem dX7_isAboveOf_56 : decode cX7_isAboveOf 56 = .ok (.aload_n 0, 1) := by decide +kernel
theorem dX7_isAboveOf_57 : decode cX7_isAboveOf 57 = .ok (.getfield 65, 3) := by decide +kernel
theorem dX7_isAboveOf_60 : decode cX7_isAboveOf 60 = .ok (.aload_n 0, 1) := by decide +kernel
theorem dX7_isAboveOf_61 : decode cX7_isAboveOf 61 = .ok (.getfield 42, 3) := by decide +kernel
theorem dX7_isAboveOf_64 : decode cX7_isAboveOf 64 = .ok (.iload_n 3, 1) := by decide +kernel
theorem dX7_isAboveOf_65 : decode cX7_isAboveOf 65 = .ok (.iaload, 1) := by decide +kernel
theorem dX7_isAboveOf_66 : decode cX7_isAboveOf 66 = .ok (.iconst 1, 1) := by decide +kernel
theorem dX7_isAboveOf_67 : decode cX7_isAboveOf 67 = .ok (.bastore, 1) := by decide +kernel
theorem dX7_isAboveOf_68 : decode cX7_isAboveOf 68 = .ok (.aload_n 0, 1) := by decide +kernel
theorem dX7_isAboveOf_69 : decode cX7_isAboveOf 69 = .ok (.getfield 65, 3) := by decide +kernel
theorem dX7_isAboveOf_72 : decode cX7_isAboveOf 72 = .ok (.iload_n 3, 1) := by decide +kernel
theorem dX7_isAboveOf_73 : decode cX7_isAboveOf 73 = .ok (.baload, 1) := by decide +kernel
theorem dX7_isAboveOf_74 : decode cX7_isAboveOf 74 = .ok (.ifCond .eq 25, 3) := by decide +kernel
theorem dX7_isAboveOf_77 : decode cX7_isAboveOf 77 = .ok (.aload_n 0, 1) := by decide +kernel
theorem dX7_isAboveOf_78 : decode cX7_isAboveOf 78 = .ok (.getfield 45, 3) := by decide +kernel
theorem dX7_isAboveOf_81 : decode cX7_isAboveOf 81 = .ok (.iload_n 3, 1) := by decide +kernel
theorem dX7_isAboveOf_82 : decode cX7_isAboveOf 82 = .ok (.iaload, 1) := by decide +kernel
theorem dX7_isAboveOf_83 : decode cX7_isAboveOf 83 = .ok (.iconst (-1), 1) := by decide +kernel
theorem dX7_isAboveOf_84 : decode cX7_isAboveOf 84 = .ok (.if_icmp .eq 15, 3) := by decide +kernel
theorem dX7_isAboveOf_87 : decode cX7_isAboveOf 87 = .ok (.aload_n 0, 1) := by decide +kernel
theorem dX7_isAboveOf_88 : decode cX7_isAboveOf 88 = .ok (.getfield 65, 3) := by decide +kernel
theorem dX7_isAboveOf_91 : decode cX7_isAboveOf 91 = .ok (.aload_n 0, 1) := by decide +kernel
theorem dX7_isAboveOf_92 : decode cX7_isAboveOf 92 = .ok (.getfield 45, 3) := by decide +kernel
theorem dX7_isAboveOf_95 : decode cX7_isAboveOf 95 = .ok (.iload_n 3, 1) := by decide +kernel
theorem dX7_isAboveOf_96 : decode cX7_isAboveOf 96 = .ok (.iaload, 1) := by decide +kernel
theorem dX7_isAboveOf_97 : decode cX7_isAboveOf 97 = .ok (.iconst 1, 1) := by decide +kernel
theorem dX7_isAboveOf_98 : decode cX7_isAboveOf 98 = .ok (.bastore, 1) := by decide +kernel
theorem dX7_isAboveOf_99 : decode cX7_isAboveOf 99 = .ok (.iinc 3 (-1), 3) := by decide +kernel
theorem dX7_isAboveOf_102 : decode cX7_isAboveOf 102 = .ok (.goto (-70), 3) := by decide +kernel
theorem dX7_isAboveOf_105 : decode cX7_isAboveOf 105 = .ok (.aload_n 0, 1) := by decide +kernel
theorem dX7_isAboveOf_106 : decode cX7_isAboveOf 106 = .ok (.getfield 65, 3) := by decide +kernel
theorem dX7_isAboveOf_109 : decode cX7_isAboveOf 109 = .ok (.iload_n 1, 1) := by decide +kernel
theorem dX7_isAboveOf_110 : decode cX7_isAboveOf 110 = .ok (.baload, 1) := by decide +kernel
theorem dX7_isAboveOf_111 : decode cX7_isAboveOf 111 = .ok (.ireturn, 1) := by decide +kernel
theorem dX7_baseOf_0 : decode cX7_baseOf 0 = .ok (.iconst (-1), 1) := by decide +kernel
theorem dX7_baseOf_1 : decode cX7_baseOf 1 = .ok (.istore_n 3, 1) := by decide +kernel
theorem dX7_baseOf_2 : decode cX7_baseOf 2 = .ok (.iconst 0, 1) := by decide +kernel
theorem dX7_baseOf_3 : decode cX7_baseOf 3 = .ok (.istore 4, 2) := by decide +kernel
theorem dX7_baseOf_5 : decode cX7_baseOf 5 = .ok (.iload 4, 2) := by decide +kernel
theorem dX7_baseOf_7 : decode cX7_baseOf 7 = .ok (.aload_n 0, 1) := by decide +kernel
theorem dX7_baseOf_8 : decode cX7_baseOf 8 = .ok (.getfield 13, 3) := by decide +kernel
theorem dX7_baseOf_11 : decode cX7_baseOf 11 = .ok (.if_icmp .ge 36, 3) := by decide +kernel
theorem dX7_baseOf_14 : decode cX7_baseOf 14 = .ok (.aload_n 0, 1) := by decide +kernel
theorem dX7_baseOf_15 : decode cX7_baseOf 15 = .ok (.iload 4, 2) := by decide +kernel
theorem dX7_baseOf_17 : decode cX7_baseOf 17 = .ok (.iload_n 1, 1) := by decide +kernel
theorem dX7_baseOf_18 : decode cX7_baseOf 18 = .ok (.invokevirtual 116, 3) := by decide +kernel
theorem dX7_baseOf_21 : decode cX7_baseOf 21 = .ok (.ifCond .eq 18, 3) := by decide +kernel
theorem dX7_baseOf_24 : decode cX7_baseOf 24 = .ok (.aload_n 0, 1) := by decide +kernel
theorem dX7_baseOf_25 : decode cX7_baseOf 25 = .ok (.iload 4, 2) := by decide +kernel
theorem dX7_baseOf_27 : decode cX7_baseOf 27 = .ok (.iload_n 2, 1) := by decide +kernel
theorem dX7_baseOf_28 : decode cX7_baseOf 28 = .ok (.invokevirtual 116, 3) := by decide +kernel
theorem dX7_baseOf_31 : decode cX7_baseOf 31 = .ok (.ifCond .eq 8, 3) := by decide +kernel
theorem dX7_baseOf_34 : decode cX7_baseOf 34 = .ok (.iload 4, 2) := by decide +kernel
theorem dX7_baseOf_36 : decode cX7_baseOf 36 = .ok (.goto 4, 3) := by decide +kernel
theorem dX7_baseOf_39 : decode cX7_baseOf 39 = .ok (.iload_n 3, 1) := by decide +kernel
theorem dX7_baseOf_40 : decode cX7_baseOf 40 = .ok (.istore_n 3, 1) := by decide +kernel
theorem dX7_baseOf_41 : decode cX7_baseOf 41 = .ok (.iinc 4 1, 3) := by decide +kernel
theorem dX7_baseOf_44 : decode cX7_baseOf 44 = .ok (.goto (-39), 3) := by decide +kernel
theorem dX7_baseOf_47 : decode cX7_baseOf 47 = .ok (.iload_n 3, 1) := by decide +kernel
theorem dX7_baseOf_48 : decode cX7_baseOf 48 = .ok (.ireturn, 1) := by decide +kernel
theorem dX7_areRows_0 : decode cX7_areRows 0 = .ok (.aload_n 0, 1) := by decide +kernel
theorem dX7_areRows_1 : decode cX7_areRows 1 = .ok (.getfield 49, 3) := by decide +kernel
theorem dX7_areRows_4 : decode cX7_areRows 4 = .ok (.iload_n 1, 1) := by decide +kernel
theorem dX7_areRows_5 : decode cX7_areRows 5 = .ok (.iconst 1, 1) := by decide +kernel
theorem dX7_areRows_6 : decode cX7_areRows 6 = .ok (.iadd, 1) := by decide +kernel
theorem dX7_areRows_7 : decode cX7_areRows 7 = .ok (.iaload, 1) := by decide +kernel
theorem dX7_areRows_8 : decode cX7_areRows 8 = .ok (.aload_n 0, 1) := by decide +kernel
theorem dX7_areRows_9 : decode cX7_areRows 9 = .ok (.getfield 49, 3) := by decide +kernel
theorem dX7_areRows_12 : decode cX7_areRows 12 = .ok (.iload_n 2, 1) := by decide +kernel
theorem dX7_areRows_13 : decode cX7_areRows 13 = .ok (.iconst 1, 1) := by decide +kernel
theorem dX7_areRows_14 : decode cX7_areRows 14 = .ok (.iadd, 1) := by decide +kernel
theorem dX7_areRows_15 : decode cX7_areRows 15 = .ok (.iaload, 1) := by decide +kernel
theorem dX7_areRows_16 : decode cX7_areRows 16 = .ok (.if_icmp .ne 7, 3) := by decide +kernel
theorem dX7_areRows_19 : decode cX7_areRows 19 = .ok (.iconst 1, 1) := by decide +kernel
theorem dX7_areRows_20 : decode cX7_areRows 20 = .ok (.goto 4, 3) := by decide +kernel
theorem dX7_areRows_23 : decode cX7_areRows 23 = .ok (.iconst 0, 1) := by decide +kernel
theorem dX7_areRows_24 : decode cX7_areRows 24 = .ok (.istore_n 3, 1) := by decide +kernel
theorem dX7_areRows_25 : decode cX7_areRows 25 = .ok (.iconst 0, 1) := by decide +kernel
theorem dX7_areRows_26 : decode cX7_areRows 26 = .ok (.istore 4, 2) := by decide +kernel
theorem dX7_areRows_28 : decode cX7_areRows 28 = .ok (.iload 4, 2) := by decide +kernel
theorem dX7_areRows_30 : decode cX7_areRows 30 = .ok (.aload_n 0, 1) := by decide +kernel
theorem dX7_areRows_31 : decode cX7_areRows 31 = .ok (.getfield 49, 3) := by decide +kernel
theorem dX7_areRows_34 : decode cX7_areRows 34 = .ok (.iload_n 1, 1) := by decide +kernel
theorem dX7_areRows_35 : decode cX7_areRows 35 = .ok (.iconst 1, 1) := by decide +kernel
theorem dX7_areRows_36 : decode cX7_areRows 36 = .ok (.iadd, 1) := by decide +kernel
theorem dX7_areRows_37 : decode cX7_areRows 37 = .ok (.iaload, 1) := by decide +kernel
theorem dX7_areRows_38 : decode cX7_areRows 38 = .ok (.if_icmp .ge 44, 3) := by decide +kernel
theorem dX7_areRows_41 : decode cX7_areRows 41 = .ok (.iload_n 3, 1) := by decide +kernel
theorem dX7_areRows_42 : decode cX7_areRows 42 = .ok (.ifCond .eq 32, 3) := by decide +kernel
theorem dX7_areRows_45 : decode cX7_areRows 45 = .ok (.aload_n 0, 1) := by decide +kernel
theorem dX7_areRows_46 : decode cX7_areRows 46 = .ok (.getfield 49, 3) := by decide +kernel
theorem dX7_areRows_49 : decode cX7_areRows 49 = .ok (.iload_n 1, 1) := by decide +kernel
theorem dX7_areRows_50 : decode cX7_areRows 50 = .ok (.iconst 2, 1) := by decide +kernel
theorem dX7_areRows_51 : decode cX7_areRows 51 = .ok (.iadd, 1) := by decide +kernel
theorem dX7_areRows_52 : decode cX7_areRows 52 = .ok (.iload 4, 2) := by decide +kernel
theorem dX7_areRows_54 : decode cX7_areRows 54 = .ok (.iadd, 1) := by decide +kernel
theorem dX7_areRows_55 : decode cX7_areRows 55 = .ok (.iaload, 1) := by decide +kernel
theorem dX7_areRows_56 : decode cX7_areRows 56 = .ok (.aload_n 0, 1) := by decide +kernel
theorem dX7_areRows_57 : decode cX7_areRows 57 = .ok (.getfield 49, 3) := by decide +kernel
theorem dX7_areRows_60 : decode cX7_areRows 60 = .ok (.iload_n 2, 1) := by decide +kernel
theorem dX7_areRows_61 : decode cX7_areRows 61 = .ok (.iconst 2, 1) := by decide +kernel
theorem dX7_areRows_62 : decode cX7_areRows 62 = .ok (.iadd, 1) := by decide +kernel
theorem dX7_areRows_63 : decode cX7_areRows 63 = .ok (.iload 4, 2) := by decide +kernel
theorem dX7_areRows_65 : decode cX7_areRows 65 = .ok (.iadd, 1) := by decide +kernel
theorem dX7_areRows_66 : decode cX7_areRows 66 = .ok (.iaload, 1) := by decide +kernel
theorem dX7_areRows_67 : decode cX7_areRows 67 = .ok (.if_icmp .ne 7, 3) := by decide +kernel
theorem dX7_areRows_70 : decode cX7_areRows 70 = .ok (.iconst 1, 1) := by decide +kernel
theorem dX7_areRows_71 : decode cX7_areRows 71 = .ok (.goto 4, 3) := by decide +kernel
theorem dX7_areRows_74 : decode cX7_areRows 74 = .ok (.iconst 0, 1) := by decide +kernel
theorem dX7_areRows_75 : decode cX7_areRows 75 = .ok (.istore_n 3, 1) := by decide +kernel
theorem dX7_areRows_76 : decode cX7_areRows 76 = .ok (.iinc 4 1, 3) := by decide +kernel
theorem dX7_areRows_79 : decode cX7_areRows 79 = .ok (.goto (-51), 3) := by decide +kernel
theorem dX7_areRows_82 : decode cX7_areRows 82 = .ok (.iload_n 3, 1) := by decide +kernel
theorem dX7_areRows_83 : decode cX7_areRows 83 = .ok (.ireturn, 1) := by decide +kernel
theorem dX7_areAlike_0 : decode cX7_areAlike 0 = .ok (.aload_n 0, 1) := by decide +kernel
theorem dX7_areAlike_1 : decode cX7_areAlike 1 = .ok (.getfield 49, 3) := by decide +kernel
theorem dX7_areAlike_4 : decode cX7_areAlike 4 = .ok (.iload_n 1, 1) := by decide +kernel
theorem dX7_areAlike_5 : decode cX7_areAlike 5 = .ok (.iaload, 1) := by decide +kernel
theorem dX7_areAlike_6 : decode cX7_areAlike 6 = .ok (.aload_n 0, 1) := by decide +kernel
theorem dX7_areAlike_7 : decode cX7_areAlike 7 = .ok (.getfield 49, 3) := by decide +kernel
theorem dX7_areAlike_10 : decode cX7_areAlike 10 = .ok (.iload_n 2, 1) := by decide +kernel
theorem dX7_areAlike_11 : decode cX7_areAlike 11 = .ok (.iaload, 1) := by decide +kernel
theorem dX7_areAlike_12 : decode cX7_areAlike 12 = .ok (.if_icmp .ne 7, 3) := by decide +kernel
theorem dX7_areAlike_15 : decode cX7_areAlike 15 = .ok (.iconst 1, 1) := by decide +kernel
theorem dX7_areAlike_16 : decode cX7_areAlike 16 = .ok (.goto 4, 3) := by decide +kernel
theorem dX7_areAlike_19 : decode cX7_areAlike 19 = .ok (.iconst 0, 1) := by decide +kernel
theorem dX7_areAlike_20 : decode cX7_areAlike 20 = .ok (.istore_n 3, 1) := by decide +kernel
theorem dX7_areAlike_21 : decode cX7_areAlike 21 = .ok (.iconst 0, 1) := by decide +kernel
theorem dX7_areAlike_22 : decode cX7_areAlike 22 = .ok (.istore 4, 2) := by decide +kernel
theorem dX7_areAlike_24 : decode cX7_areAlike 24 = .ok (.iload 4, 2) := by decide +kernel
theorem dX7_areAlike_26 : decode cX7_areAlike 26 = .ok (.aload_n 0, 1) := by decide +kernel
theorem dX7_areAlike_27 : decode cX7_areAlike 27 = .ok (.getfield 49, 3) := by decide +kernel
theorem dX7_areAlike_30 : decode cX7_areAlike 30 = .ok (.iload_n 1, 1) := by decide +kernel
theorem dX7_areAlike_31 : decode cX7_areAlike 31 = .ok (.iaload, 1) := by decide +kernel
theorem dX7_areAlike_32 : decode cX7_areAlike 32 = .ok (.if_icmp .ge 44, 3) := by decide +kernel
theorem dX7_areAlike_35 : decode cX7_areAlike 35 = .ok (.iload_n 3, 1) := by decide +kernel
theorem dX7_areAlike_36 : decode cX7_areAlike 36 = .ok (.ifCond .eq 32, 3) := by decide +kernel
theorem dX7_areAlike_39 : decode cX7_areAlike 39 = .ok (.aload_n 0, 1) := by decide +kernel
theorem dX7_areAlike_40 : decode cX7_areAlike 40 = .ok (.iload_n 1, 1) := by decide +kernel
theorem dX7_areAlike_41 : decode cX7_areAlike 41 = .ok (.iconst 1, 1) := by decide +kernel
theorem dX7_areAlike_42 : decode cX7_areAlike 42 = .ok (.iadd, 1) := by decide +kernel
theorem dX7_areAlike_43 : decode cX7_areAlike 43 = .ok (.bipush 10, 2) := by decide +kernel
theorem dX7_areAlike_45 : decode cX7_areAlike 45 = .ok (.iload 4, 2) := by decide +kernel
theorem dX7_areAlike_47 : decode cX7_areAlike 47 = .ok (.imul, 1) := by decide +kernel
theorem dX7_areAlike_48 : decode cX7_areAlike 48 = .ok (.iadd, 1) := by decide +kernel
theorem dX7_areAlike_49 : decode cX7_areAlike 49 = .ok (.iload_n 2, 1) := by decide +kernel
theorem dX7_areAlike_50 : decode cX7_areAlike 50 = .ok (.iconst 1, 1) := by decide +kernel
theorem dX7_areAlike_51 : decode cX7_areAlike 51 = .ok (.iadd, 1) := by decide +kernel
theorem dX7_areAlike_52 : decode cX7_areAlike 52 = .ok (.bipush 10, 2) := by decide +kernel
theorem dX7_areAlike_54 : decode cX7_areAlike 54 = .ok (.iload 4, 2) := by decide +kernel
theorem dX7_areAlike_56 : decode cX7_areAlike 56 = .ok (.imul, 1) := by decide +kernel
theorem dX7_areAlike_57 : decode cX7_areAlike 57 = .ok (.iadd, 1) := by decide +kernel
theorem dX7_areAlike_58 : decode cX7_areAlike 58 = .ok (.invokevirtual 120, 3) := by decide +kernel
theorem dX7_areAlike_61 : decode cX7_areAlike 61 = .ok (.ifCond .eq 7, 3) := by decide +kernel
theorem dX7_areAlike_64 : decode cX7_areAlike 64 = .ok (.iconst 1, 1) := by decide +kernel
theorem dX7_areAlike_65 : decode cX7_areAlike 65 = .ok (.goto 4, 3) := by decide +kernel
theorem dX7_areAlike_68 : decode cX7_areAlike 68 = .ok (.iconst 0, 1) := by decide +kernel
theorem dX7_areAlike_69 : decode cX7_areAlike 69 = .ok (.istore_n 3, 1) := by decide +kernel
theorem dX7_areAlike_70 : decode cX7_areAlike 70 = .ok (.iinc 4 1, 3) := by decide +kernel
theorem dX7_areAlike_73 : decode cX7_areAlike 73 = .ok (.goto (-49), 3) := by decide +kernel
theorem dX7_areAlike_76 : decode cX7_areAlike 76 = .ok (.iload_n 3, 1) := by decide +kernel
theorem dX7_areAlike_77 : decode cX7_areAlike 77 = .ok (.ireturn, 1) := by decide +kernel
theorem dX7_notesOf_0 : decode cX7_notesOf 0 = .ok (.iconst 0, 1) := by decide +kernel
theorem dX7_notesOf_1 : decode cX7_notesOf 1 = .ok (.istore_n 2, 1) := by decide +kernel
theorem dX7_notesOf_2 : decode cX7_notesOf 2 = .ok (.iconst 0, 1) := by decide +kernel
theorem dX7_notesOf_3 : decode cX7_notesOf 3 = .ok (.istore_n 3, 1) := by decide +kernel
theorem dX7_notesOf_4 : decode cX7_notesOf 4 = .ok (.iload_n 3, 1) := by decide +kernel
theorem dX7_notesOf_5 : decode cX7_notesOf 5 = .ok (.aload_n 0, 1) := by decide +kernel
theorem dX7_notesOf_6 : decode cX7_notesOf 6 = .ok (.getfield 49, 3) := by decide +kernel
theorem dX7_notesOf_9 : decode cX7_notesOf 9 = .ok (.iload_n 1, 1) := by decide +kernel
theorem dX7_notesOf_10 : decode cX7_notesOf 10 = .ok (.iaload, 1) := by decide +kernel
theorem dX7_notesOf_11 : decode cX7_notesOf 11 = .ok (.if_icmp .ge 25, 3) := by decide +kernel
theorem dX7_notesOf_14 : decode cX7_notesOf 14 = .ok (.iload_n 2, 1) := by decide +kernel
theorem dX7_notesOf_15 : decode cX7_notesOf 15 = .ok (.aload_n 0, 1) := by decide +kernel
theorem dX7_notesOf_16 : decode cX7_notesOf 16 = .ok (.getfield 49, 3) := by decide +kernel
theorem dX7_notesOf_19 : decode cX7_notesOf 19 = .ok (.iload_n 1, 1) := by decide +kernel
theorem dX7_notesOf_20 : decode cX7_notesOf 20 = .ok (.iconst 2, 1) := by decide +kernel
theorem dX7_notesOf_21 : decode cX7_notesOf 21 = .ok (.iadd, 1) := by decide +kernel
theorem dX7_notesOf_22 : decode cX7_notesOf 22 = .ok (.bipush 10, 2) := by decide +kernel
theorem dX7_notesOf_24 : decode cX7_notesOf 24 = .ok (.iload_n 3, 1) := by decide +kernel
theorem dX7_notesOf_25 : decode cX7_notesOf 25 = .ok (.imul, 1) := by decide +kernel
theorem dX7_notesOf_26 : decode cX7_notesOf 26 = .ok (.iadd, 1) := by decide +kernel
theorem dX7_notesOf_27 : decode cX7_notesOf 27 = .ok (.iaload, 1) := by decide +kernel
theorem dX7_notesOf_28 : decode cX7_notesOf 28 = .ok (.iadd, 1) := by decide +kernel
theorem dX7_notesOf_29 : decode cX7_notesOf 29 = .ok (.istore_n 2, 1) := by decide +kernel
theorem dX7_notesOf_30 : decode cX7_notesOf 30 = .ok (.iinc 3 1, 3) := by decide +kernel
theorem dX7_notesOf_33 : decode cX7_notesOf 33 = .ok (.goto (-29), 3) := by decide +kernel
theorem dX7_notesOf_36 : decode cX7_notesOf 36 = .ok (.iload_n 2, 1) := by decide +kernel
theorem dX7_notesOf_37 : decode cX7_notesOf 37 = .ok (.ireturn, 1) := by decide +kernel
theorem dX7_joins_0 : decode cX7_joins 0 = .ok (.iconst 0, 1) := by decide +kernel
theorem dX7_joins_1 : decode cX7_joins 1 = .ok (.istore_n 3, 1) := by decide +kernel
theorem dX7_joins_2 : decode cX7_joins 2 = .ok (.iload_n 3, 1) := by decide +kernel
theorem dX7_joins_3 : decode cX7_joins 3 = .ok (.aload_n 0, 1) := by decide +kernel
theorem dX7_joins_4 : decode cX7_joins 4 = .ok (.getfield 49, 3) := by decide +kernel
theorem dX7_joins_7 : decode cX7_joins 7 = .ok (.iload_n 1, 1) := by decide +kernel
theorem dX7_joins_8 : decode cX7_joins 8 = .ok (.iaload, 1) := by decide +kernel
theorem dX7_joins_9 : decode cX7_joins 9 = .ok (.if_icmp .ge 149, 3) := by decide +kernel
theorem dX7_joins_12 : decode cX7_joins 12 = .ok (.iconst 0, 1) := by decide +kernel
theorem dX7_joins_13 : decode cX7_joins 13 = .ok (.istore 4, 2) := by decide +kernel
theorem dX7_joins_15 : decode cX7_joins 15 = .ok (.iconst 0, 1) := by decide +kernel
theorem dX7_joins_16 : decode cX7_joins 16 = .ok (.istore 5, 2) := by decide +kernel
theorem dX7_joins_18 : decode cX7_joins 18 = .ok (.iload 5, 2) := by decide +kernel
theorem dX7_joins_20 : decode cX7_joins 20 = .ok (.aload_n 0, 1) := by decide +kernel
theorem dX7_joins_21 : decode cX7_joins 21 = .ok (.getfield 49, 3) := by decide +kernel
theorem dX7_joins_24 : decode cX7_joins 24 = .ok (.iload_n 2, 1) := by decide +kernel
theorem dX7_joins_25 : decode cX7_joins 25 = .ok (.iaload, 1) := by decide +kernel
theorem dX7_joins_26 : decode cX7_joins 26 = .ok (.if_icmp .ge 45, 3) := by decide +kernel
theorem dX7_joins_29 : decode cX7_joins 29 = .ok (.iload 4, 2) := by decide +kernel
theorem dX7_joins_31 : decode cX7_joins 31 = .ok (.ifCond .ne 27, 3) := by decide +kernel
theorem dX7_joins_34 : decode cX7_joins 34 = .ok (.aload_n 0, 1) := by decide +kernel
theorem dX7_joins_35 : decode cX7_joins 35 = .ok (.iload_n 2, 1) := by decide +kernel
theorem dX7_joins_36 : decode cX7_joins 36 = .ok (.iconst 1, 1) := by decide +kernel
theorem dX7_joins_37 : decode cX7_joins 37 = .ok (.iadd, 1) := by decide +kernel
theorem dX7_joins_38 : decode cX7_joins 38 = .ok (.bipush 10, 2) := by decide +kernel
theorem dX7_joins_40 : decode cX7_joins 40 = .ok (.iload 5, 2) := by decide +kernel
theorem dX7_joins_42 : decode cX7_joins 42 = .ok (.imul, 1) := by decide +kernel
theorem dX7_joins_43 : decode cX7_joins 43 = .ok (.iadd, 1) := by decide +kernel
theorem dX7_joins_44 : decode cX7_joins 44 = .ok (.iload_n 1, 1) := by decide +kernel
theorem dX7_joins_45 : decode cX7_joins 45 = .ok (.iconst 1, 1) := by decide +kernel
theorem dX7_joins_46 : decode cX7_joins 46 = .ok (.iadd, 1) := by decide +kernel
theorem dX7_joins_47 : decode cX7_joins 47 = .ok (.bipush 10, 2) := by decide +kernel
theorem dX7_joins_49 : decode cX7_joins 49 = .ok (.iload_n 3, 1) := by decide +kernel
theorem dX7_joins_50 : decode cX7_joins 50 = .ok (.imul, 1) := by decide +kernel
theorem dX7_joins_51 : decode cX7_joins 51 = .ok (.iadd, 1) := by decide +kernel
theorem dX7_joins_52 : decode cX7_joins 52 = .ok (.invokevirtual 120, 3) := by decide +kernel
theorem dX7_joins_55 : decode cX7_joins 55 = .ok (.ifCond .eq 7, 3) := by decide +kernel
theorem dX7_joins_58 : decode cX7_joins 58 = .ok (.iconst 1, 1) := by decide +kernel
theorem dX7_joins_59 : decode cX7_joins 59 = .ok (.goto 4, 3) := by decide +kernel
theorem dX7_joins_62 : decode cX7_joins 62 = .ok (.iconst 0, 1) := by decide +kernel
theorem dX7_joins_63 : decode cX7_joins 63 = .ok (.istore 4, 2) := by decide +kernel
theorem dX7_joins_65 : decode cX7_joins 65 = .ok (.iinc 5 1, 3) := by decide +kernel
theorem dX7_joins_68 : decode cX7_joins 68 = .ok (.goto (-50), 3) := by decide +kernel
theorem dX7_joins_71 : decode cX7_joins 71 = .ok (.iload 4, 2) := by decide +kernel
theorem dX7_joins_73 : decode cX7_joins 73 = .ok (.ifCond .ne 79, 3) := by decide +kernel
theorem dX7_joins_76 : decode cX7_joins 76 = .ok (.aload_n 0, 1) := by decide +kernel
theorem dX7_joins_77 : decode cX7_joins 77 = .ok (.getfield 49, 3) := by decide +kernel
theorem dX7_joins_80 : decode cX7_joins 80 = .ok (.iload_n 2, 1) := by decide +kernel
theorem dX7_joins_81 : decode cX7_joins 81 = .ok (.iaload, 1) := by decide +kernel
theorem dX7_joins_82 : decode cX7_joins 82 = .ok (.iconst 4, 1) := by decide +kernel
theorem dX7_joins_83 : decode cX7_joins 83 = .ok (.if_icmp .ne 6, 3) := by decide +kernel
theorem dX7_joins_86 : decode cX7_joins 86 = .ok (.goto 66, 3) := by decide +kernel
theorem dX7_joins_89 : decode cX7_joins 89 = .ok (.iconst 0, 1) := by decide +kernel
theorem dX7_joins_90 : decode cX7_joins 90 = .ok (.istore 5, 2) := by decide +kernel
theorem dX7_joins_92 : decode cX7_joins 92 = .ok (.iload 5, 2) := by decide +kernel
theorem dX7_joins_94 : decode cX7_joins 94 = .ok (.bipush 10, 2) := by decide +kernel
theorem dX7_joins_96 : decode cX7_joins 96 = .ok (.if_icmp .ge 46, 3) := by decide +kernel
theorem dX7_joins_99 : decode cX7_joins 99 = .ok (.aload_n 0, 1) := by decide +kernel
theorem dX7_joins_100 : decode cX7_joins 100 = .ok (.getfield 49, 3) := by decide +kernel
theorem dX7_joins_103 : decode cX7_joins 103 = .ok (.iload_n 2, 1) := by decide +kernel
theorem dX7_joins_104 : decode cX7_joins 104 = .ok (.iconst 1, 1) := by decide +kernel
theorem dX7_joins_105 : decode cX7_joins 105 = .ok (.iadd, 1) := by decide +kernel
theorem dX7_joins_106 : decode cX7_joins 106 = .ok (.bipush 10, 2) := by decide +kernel
theorem dX7_joins_108 : decode cX7_joins 108 = .ok (.aload_n 0, 1) := by decide +kernel
theorem dX7_joins_109 : decode cX7_joins 109 = .ok (.getfield 49, 3) := by decide +kernel
theorem dX7_joins_112 : decode cX7_joins 112 = .ok (.iload_n 2, 1) := by decide +kernel
theorem dX7_joins_113 : decode cX7_joins 113 = .ok (.iaload, 1) := by decide +kernel
theorem dX7_joins_114 : decode cX7_joins 114 = .ok (.imul, 1) := by decide +kernel
theorem dX7_joins_115 : decode cX7_joins 115 = .ok (.iadd, 1) := by decide +kernel
theorem dX7_joins_116 : decode cX7_joins 116 = .ok (.iload 5, 2) := by decide +kernel
theorem dX7_joins_118 : decode cX7_joins 118 = .ok (.iadd, 1) := by decide +kernel
theorem dX7_joins_119 : decode cX7_joins 119 = .ok (.aload_n 0, 1) := by decide +kernel
theorem dX7_joins_120 : decode cX7_joins 120 = .ok (.getfield 49, 3) := by decide +kernel
theorem dX7_joins_123 : decode cX7_joins 123 = .ok (.iload_n 1, 1) := by decide +kernel
theorem dX7_joins_124 : decode cX7_joins 124 = .ok (.iconst 1, 1) := by decide +kernel
theorem dX7_joins_125 : decode cX7_joins 125 = .ok (.iadd, 1) := by decide +kernel
theorem dX7_joins_126 : decode cX7_joins 126 = .ok (.bipush 10, 2) := by decide +kernel
theorem dX7_joins_128 : decode cX7_joins 128 = .ok (.iload_n 3, 1) := by decide +kernel
theorem dX7_joins_129 : decode cX7_joins 129 = .ok (.imul, 1) := by decide +kernel
theorem dX7_joins_130 : decode cX7_joins 130 = .ok (.iadd, 1) := by decide +kernel
theorem dX7_joins_131 : decode cX7_joins 131 = .ok (.iload 5, 2) := by decide +kernel
theorem dX7_joins_133 : decode cX7_joins 133 = .ok (.iadd, 1) := by decide +kernel
theorem dX7_joins_134 : decode cX7_joins 134 = .ok (.iaload, 1) := by decide +kernel
theorem dX7_joins_135 : decode cX7_joins 135 = .ok (.iastore, 1) := by decide +kernel
theorem dX7_joins_136 : decode cX7_joins 136 = .ok (.iinc 5 1, 3) := by decide +kernel
theorem dX7_joins_139 : decode cX7_joins 139 = .ok (.goto (-47), 3) := by decide +kernel
theorem dX7_joins_142 : decode cX7_joins 142 = .ok (.aload_n 0, 1) := by decide +kernel
theorem dX7_joins_143 : decode cX7_joins 143 = .ok (.getfield 49, 3) := by decide +kernel
theorem dX7_joins_146 : decode cX7_joins 146 = .ok (.iload_n 2, 1) := by decide +kernel
theorem dX7_joins_147 : decode cX7_joins 147 = .ok (.dup2, 1) := by decide +kernel
theorem dX7_joins_148 : decode cX7_joins 148 = .ok (.iaload, 1) := by decide +kernel
theorem dX7_joins_149 : decode cX7_joins 149 = .ok (.iconst 1, 1) := by decide +kernel
theorem dX7_joins_150 : decode cX7_joins 150 = .ok (.iadd, 1) := by decide +kernel
theorem dX7_joins_151 : decode cX7_joins 151 = .ok (.iastore, 1) := by decide +kernel
theorem dX7_joins_152 : decode cX7_joins 152 = .ok (.iinc 3 1, 3) := by decide +kernel
theorem dX7_joins_155 : decode cX7_joins 155 = .ok (.goto (-153), 3) := by decide +kernel
theorem dX7_joins_158 : decode cX7_joins 158 = .ok (.return_, 1) := by decide +kernel
theorem dX7_merge_0 : decode cX7_merge 0 = .ok (.aload_n 0, 1) := by decide +kernel
theorem dX7_merge_1 : decode cX7_merge 1 = .ok (.iload_n 1, 1) := by decide +kernel
theorem dX7_merge_2 : decode cX7_merge 2 = .ok (.invokevirtual 100, 3) := by decide +kernel
theorem dX7_merge_5 : decode cX7_merge 5 = .ok (.ifCond .eq 11, 3) := by decide +kernel
theorem dX7_merge_8 : decode cX7_merge 8 = .ok (.aload_n 0, 1) := by decide +kernel
theorem dX7_merge_9 : decode cX7_merge 9 = .ok (.iload_n 2, 1) := by decide +kernel
theorem dX7_merge_10 : decode cX7_merge 10 = .ok (.invokevirtual 100, 3) := by decide +kernel
theorem dX7_merge_13 : decode cX7_merge 13 = .ok (.ifCond .ne 9, 3) := by decide +kernel
theorem dX7_merge_16 : decode cX7_merge 16 = .ok (.aload_n 0, 1) := by decide +kernel
theorem dX7_merge_17 : decode cX7_merge 17 = .ok (.iconst 1, 1) := by decide +kernel
theorem dX7_merge_18 : decode cX7_merge 18 = .ok (.invokevirtual 81, 3) := by decide +kernel
theorem dX7_merge_21 : decode cX7_merge 21 = .ok (.ireturn, 1) := by decide +kernel
theorem dX7_merge_22 : decode cX7_merge 22 = .ok (.iload_n 3, 1) := by decide +kernel
theorem dX7_merge_23 : decode cX7_merge 23 = .ok (.iconst 0, 1) := by decide +kernel
theorem dX7_merge_24 : decode cX7_merge 24 = .ok (.iconst 5, 1) := by decide +kernel
theorem dX7_merge_25 : decode cX7_merge 25 = .ok (.invokestatic 77, 3) := by decide +kernel
theorem dX7_merge_28 : decode cX7_merge 28 = .ok (.ifCond .ne 9, 3) := by decide +kernel
theorem dX7_merge_31 : decode cX7_merge 31 = .ok (.aload_n 0, 1) := by decide +kernel
theorem dX7_merge_32 : decode cX7_merge 32 = .ok (.iconst 2, 1) := by decide +kernel
theorem dX7_merge_33 : decode cX7_merge 33 = .ok (.invokevirtual 81, 3) := by decide +kernel
theorem dX7_merge_36 : decode cX7_merge 36 = .ok (.ireturn, 1) := by decide +kernel
theorem dX7_merge_37 : decode cX7_merge 37 = .ok (.aload_n 0, 1) := by decide +kernel
theorem dX7_merge_38 : decode cX7_merge 38 = .ok (.getfield 39, 3) := by decide +kernel
theorem dX7_merge_41 : decode cX7_merge 41 = .ok (.iload_n 1, 1) := by decide +kernel
theorem dX7_merge_42 : decode cX7_merge 42 = .ok (.iaload, 1) := by decide +kernel
theorem dX7_merge_43 : decode cX7_merge 43 = .ok (.aload_n 0, 1) := by decide +kernel
theorem dX7_merge_44 : decode cX7_merge 44 = .ok (.getfield 39, 3) := by decide +kernel
theorem dX7_merge_47 : decode cX7_merge 47 = .ok (.iload_n 2, 1) := by decide +kernel
theorem dX7_merge_48 : decode cX7_merge 48 = .ok (.iaload, 1) := by decide +kernel
theorem dX7_merge_49 : decode cX7_merge 49 = .ok (.if_icmp .ne 21, 3) := by decide +kernel
theorem dX7_merge_52 : decode cX7_merge 52 = .ok (.aload_n 0, 1) := by decide +kernel
theorem dX7_merge_53 : decode cX7_merge 53 = .ok (.iload_n 1, 1) := by decide +kernel
theorem dX7_merge_54 : decode cX7_merge 54 = .ok (.iload_n 2, 1) := by decide +kernel
theorem dX7_merge_55 : decode cX7_merge 55 = .ok (.invokevirtual 116, 3) := by decide +kernel
theorem dX7_merge_58 : decode cX7_merge 58 = .ok (.ifCond .ne 12, 3) := by decide +kernel
theorem dX7_merge_61 : decode cX7_merge 61 = .ok (.aload_n 0, 1) := by decide +kernel
theorem dX7_merge_62 : decode cX7_merge 62 = .ok (.iload_n 2, 1) := by decide +kernel
theorem dX7_merge_63 : decode cX7_merge 63 = .ok (.iload_n 1, 1) := by decide +kernel
theorem dX7_merge_64 : decode cX7_merge 64 = .ok (.invokevirtual 116, 3) := by decide +kernel
theorem dX7_merge_67 : decode cX7_merge 67 = .ok (.ifCond .eq 9, 3) := by decide +kernel
theorem dX7_merge_70 : decode cX7_merge 70 = .ok (.aload_n 0, 1) := by decide +kernel
theorem dX7_merge_71 : decode cX7_merge 71 = .ok (.iconst 3, 1) := by decide +kernel
theorem dX7_merge_72 : decode cX7_merge 72 = .ok (.invokevirtual 81, 3) := by decide +kernel
theorem dX7_merge_75 : decode cX7_merge 75 = .ok (.ireturn, 1) := by decide +kernel
theorem dX7_merge_76 : decode cX7_merge 76 = .ok (.aload_n 0, 1) := by decide +kernel
theorem dX7_merge_77 : decode cX7_merge 77 = .ok (.getfield 13, 3) := by decide +kernel
theorem dX7_merge_80 : decode cX7_merge 80 = .ok (.bipush 40, 2) := by decide +kernel
theorem dX7_merge_82 : decode cX7_merge 82 = .ok (.if_icmp .ne 9, 3) := by decide +kernel
theorem dX7_merge_85 : decode cX7_merge 85 = .ok (.aload_n 0, 1) := by decide +kernel
theorem dX7_merge_86 : decode cX7_merge 86 = .ok (.iconst 4, 1) := by decide +kernel
theorem dX7_merge_87 : decode cX7_merge 87 = .ok (.invokevirtual 81, 3) := by decide +kernel
theorem dX7_merge_90 : decode cX7_merge 90 = .ok (.ireturn, 1) := by decide +kernel
theorem dX7_merge_91 : decode cX7_merge 91 = .ok (.aload_n 0, 1) := by decide +kernel
theorem dX7_merge_92 : decode cX7_merge 92 = .ok (.getfield 39, 3) := by decide +kernel
theorem dX7_merge_95 : decode cX7_merge 95 = .ok (.iload_n 1, 1) := by decide +kernel
theorem dX7_merge_96 : decode cX7_merge 96 = .ok (.iaload, 1) := by decide +kernel
theorem dX7_merge_97 : decode cX7_merge 97 = .ok (.istore 4, 2) := by decide +kernel
theorem dX7_merge_99 : decode cX7_merge 99 = .ok (.aload_n 0, 1) := by decide +kernel
theorem dX7_merge_100 : decode cX7_merge 100 = .ok (.iload_n 1, 1) := by decide +kernel
theorem dX7_merge_101 : decode cX7_merge 101 = .ok (.iload_n 2, 1) := by decide +kernel
theorem dX7_merge_102 : decode cX7_merge 102 = .ok (.invokevirtual 123, 3) := by decide +kernel
theorem dX7_merge_105 : decode cX7_merge 105 = .ok (.istore 5, 2) := by decide +kernel
theorem dX7_merge_107 : decode cX7_merge 107 = .ok (.aload_n 0, 1) := by decide +kernel
theorem dX7_merge_108 : decode cX7_merge 108 = .ok (.iload 4, 2) := by decide +kernel
theorem dX7_merge_110 : decode cX7_merge 110 = .ok (.iload_n 1, 1) := by decide +kernel
theorem dX7_merge_111 : decode cX7_merge 111 = .ok (.iload_n 2, 1) := by decide +kernel
theorem dX7_merge_112 : decode cX7_merge 112 = .ok (.invokevirtual 85, 3) := by decide +kernel
theorem dX7_merge_115 : decode cX7_merge 115 = .ok (.istore 6, 2) := by decide +kernel
theorem dX7_merge_117 : decode cX7_merge 117 = .ok (.iconst 0, 1) := by decide +kernel
theorem dX7_merge_118 : decode cX7_merge 118 = .ok (.istore 7, 2) := by decide +kernel
theorem dX7_merge_120 : decode cX7_merge 120 = .ok (.iload 7, 2) := by decide +kernel
theorem dX7_merge_122 : decode cX7_merge 122 = .ok (.aload_n 0, 1) := by decide +kernel
theorem dX7_merge_123 : decode cX7_merge 123 = .ok (.iload 4, 2) := by decide +kernel
theorem dX7_merge_125 : decode cX7_merge 125 = .ok (.invokevirtual 106, 3) := by decide +kernel
theorem dX7_merge_128 : decode cX7_merge 128 = .ok (.if_icmp .ge 242, 3) := by decide +kernel
theorem dX7_merge_131 : decode cX7_merge 131 = .ok (.aload_n 0, 1) := by decide +kernel
theorem dX7_merge_132 : decode cX7_merge 132 = .ok (.iload_n 1, 1) := by decide +kernel
theorem dX7_merge_133 : decode cX7_merge 133 = .ok (.iload 7, 2) := by decide +kernel
theorem dX7_merge_135 : decode cX7_merge 135 = .ok (.invokevirtual 89, 3) := by decide +kernel
theorem dX7_merge_138 : decode cX7_merge 138 = .ok (.istore 8, 2) := by decide +kernel
theorem dX7_merge_140 : decode cX7_merge 140 = .ok (.aload_n 0, 1) := by decide +kernel
theorem dX7_merge_141 : decode cX7_merge 141 = .ok (.iload_n 2, 1) := by decide +kernel
theorem dX7_merge_142 : decode cX7_merge 142 = .ok (.iload 7, 2) := by decide +kernel
theorem dX7_merge_144 : decode cX7_merge 144 = .ok (.invokevirtual 89, 3) := by decide +kernel
theorem dX7_merge_147 : decode cX7_merge 147 = .ok (.istore 9, 2) := by decide +kernel
theorem dX7_merge_149 : decode cX7_merge 149 = .ok (.aload_n 0, 1) := by decide +kernel
theorem dX7_merge_150 : decode cX7_merge 150 = .ok (.iload 6, 2) := by decide +kernel
theorem dX7_merge_152 : decode cX7_merge 152 = .ok (.iload 7, 2) := by decide +kernel
theorem dX7_merge_154 : decode cX7_merge 154 = .ok (.invokevirtual 89, 3) := by decide +kernel
theorem dX7_merge_157 : decode cX7_merge 157 = .ok (.istore 10, 2) := by decide +kernel
theorem dX7_merge_159 : decode cX7_merge 159 = .ok (.aload_n 0, 1) := by decide +kernel
theorem dX7_merge_160 : decode cX7_merge 160 = .ok (.getfield 35, 3) := by decide +kernel
theorem dX7_merge_163 : decode cX7_merge 163 = .ok (.iconst 4, 1) := by decide +kernel
theorem dX7_merge_164 : decode cX7_merge 164 = .ok (.iload 4, 2) := by decide +kernel
theorem dX7_merge_166 : decode cX7_merge 166 = .ok (.imul, 1) := by decide +kernel
theorem dX7_merge_167 : decode cX7_merge 167 = .ok (.iload 7, 2) := by decide +kernel
theorem dX7_merge_169 : decode cX7_merge 169 = .ok (.aload_n 0, 1) := by decide +kernel
theorem dX7_merge_170 : decode cX7_merge 170 = .ok (.getfield 29, 3) := by decide +kernel
theorem dX7_merge_173 : decode cX7_merge 173 = .ok (.iload 4, 2) := by decide +kernel
theorem dX7_merge_175 : decode cX7_merge 175 = .ok (.iaload, 1) := by decide +kernel
theorem dX7_merge_176 : decode cX7_merge 176 = .ok (.irem, 1) := by decide +kernel
theorem dX7_merge_177 : decode cX7_merge 177 = .ok (.iadd, 1) := by decide +kernel
theorem dX7_merge_178 : decode cX7_merge 178 = .ok (.caload, 1) := by decide +kernel
theorem dX7_merge_179 : decode cX7_merge 179 = .ok (.istore 11, 2) := by decide +kernel
theorem dX7_merge_181 : decode cX7_merge 181 = .ok (.aload_n 0, 1) := by decide +kernel
theorem dX7_merge_182 : decode cX7_merge 182 = .ok (.iload 8, 2) := by decide +kernel
theorem dX7_merge_184 : decode cX7_merge 184 = .ok (.iload 9, 2) := by decide +kernel
theorem dX7_merge_186 : decode cX7_merge 186 = .ok (.invokevirtual 126, 3) := by decide +kernel
theorem dX7_merge_189 : decode cX7_merge 189 = .ok (.ifCond .ne 78, 3) := by decide +kernel
theorem dX7_merge_192 : decode cX7_merge 192 = .ok (.aload_n 0, 1) := by decide +kernel
theorem dX7_merge_193 : decode cX7_merge 193 = .ok (.iload 8, 2) := by decide +kernel
theorem dX7_merge_195 : decode cX7_merge 195 = .ok (.aload_n 0, 1) := by decide +kernel
theorem dX7_merge_196 : decode cX7_merge 196 = .ok (.iload 5, 2) := by decide +kernel
theorem dX7_merge_198 : decode cX7_merge 198 = .ok (.iload 7, 2) := by decide +kernel
theorem dX7_merge_200 : decode cX7_merge 200 = .ok (.invokevirtual 89, 3) := by decide +kernel
theorem dX7_merge_203 : decode cX7_merge 203 = .ok (.invokevirtual 126, 3) := by decide +kernel
theorem dX7_merge_206 : decode cX7_merge 206 = .ok (.ifCond .ne 65, 3) := by decide +kernel
theorem dX7_merge_209 : decode cX7_merge 209 = .ok (.aload_n 0, 1) := by decide +kernel
theorem dX7_merge_210 : decode cX7_merge 210 = .ok (.iload 9, 2) := by decide +kernel
theorem dX7_merge_212 : decode cX7_merge 212 = .ok (.aload_n 0, 1) := by decide +kernel
theorem dX7_merge_213 : decode cX7_merge 213 = .ok (.iload 5, 2) := by decide +kernel
theorem dX7_merge_215 : decode cX7_merge 215 = .ok (.iload 7, 2) := by decide +kernel
theorem dX7_merge_217 : decode cX7_merge 217 = .ok (.invokevirtual 89, 3) := by decide +kernel
theorem dX7_merge_220 : decode cX7_merge 220 = .ok (.invokevirtual 126, 3) := by decide +kernel
theorem dX7_merge_223 : decode cX7_merge 223 = .ok (.ifCond .ne 44, 3) := by decide +kernel
theorem dX7_merge_226 : decode cX7_merge 226 = .ok (.iload 11, 2) := by decide +kernel
theorem dX7_merge_228 : decode cX7_merge 228 = .ok (.bipush 98, 2) := by decide +kernel
theorem dX7_merge_230 : decode cX7_merge 230 = .ok (.if_icmp .eq 37, 3) := by decide +kernel
theorem dX7_merge_233 : decode cX7_merge 233 = .ok (.iload 11, 2) := by decide +kernel
theorem dX7_merge_235 : decode cX7_merge 235 = .ok (.bipush 108, 2) := by decide +kernel
theorem dX7_merge_237 : decode cX7_merge 237 = .ok (.if_icmp .ne 8, 3) := by decide +kernel
theorem dX7_merge_240 : decode cX7_merge 240 = .ok (.iload_n 1, 1) := by decide +kernel
theorem dX7_merge_241 : decode cX7_merge 241 = .ok (.iload_n 2, 1) := by decide +kernel
theorem dX7_merge_242 : decode cX7_merge 242 = .ok (.if_icmp .gt 25, 3) := by decide +kernel
theorem dX7_merge_245 : decode cX7_merge 245 = .ok (.iload 11, 2) := by decide +kernel
theorem dX7_merge_247 : decode cX7_merge 247 = .ok (.bipush 110, 2) := by decide +kernel
theorem dX7_merge_249 : decode cX7_merge 249 = .ok (.if_icmp .ne 22, 3) := by decide +kernel
theorem dX7_merge_252 : decode cX7_merge 252 = .ok (.aload_n 0, 1) := by decide +kernel
theorem dX7_merge_253 : decode cX7_merge 253 = .ok (.iload 8, 2) := by decide +kernel
theorem dX7_merge_255 : decode cX7_merge 255 = .ok (.invokevirtual 129, 3) := by decide +kernel
theorem dX7_merge_258 : decode cX7_merge 258 = .ok (.aload_n 0, 1) := by decide +kernel
theorem dX7_merge_259 : decode cX7_merge 259 = .ok (.iload 9, 2) := by decide +kernel
theorem dX7_merge_261 : decode cX7_merge 261 = .ok (.invokevirtual 129, 3) := by decide +kernel
theorem dX7_merge_264 : decode cX7_merge 264 = .ok (.if_icmp .lt 7, 3) := by decide +kernel
theorem dX7_merge_267 : decode cX7_merge 267 = .ok (.iconst 1, 1) := by decide +kernel
theorem dX7_merge_268 : decode cX7_merge 268 = .ok (.goto 4, 3) := by decide +kernel
theorem dX7_merge_271 : decode cX7_merge 271 = .ok (.iconst 0, 1) := by decide +kernel
theorem dX7_merge_272 : decode cX7_merge 272 = .ok (.istore 12, 2) := by decide +kernel
theorem dX7_merge_274 : decode cX7_merge 274 = .ok (.aload_n 0, 1) := by decide +kernel
theorem dX7_merge_275 : decode cX7_merge 275 = .ok (.iload 12, 2) := by decide +kernel
theorem dX7_merge_277 : decode cX7_merge 277 = .ok (.ifCond .eq 8, 3) := by decide +kernel
theorem dX7_merge_280 : decode cX7_merge 280 = .ok (.iload 8, 2) := by decide +kernel
theorem dX7_merge_282 : decode cX7_merge 282 = .ok (.goto 5, 3) := by decide +kernel
theorem dX7_merge_285 : decode cX7_merge 285 = .ok (.iload 9, 2) := by decide +kernel
theorem dX7_merge_287 : decode cX7_merge 287 = .ok (.iload 10, 2) := by decide +kernel
theorem dX7_merge_289 : decode cX7_merge 289 = .ok (.invokevirtual 109, 3) := by decide +kernel
theorem dX7_merge_292 : decode cX7_merge 292 = .ok (.aload_n 0, 1) := by decide +kernel
theorem dX7_merge_293 : decode cX7_merge 293 = .ok (.iload 8, 2) := by decide +kernel
theorem dX7_merge_295 : decode cX7_merge 295 = .ok (.iload 9, 2) := by decide +kernel
theorem dX7_merge_297 : decode cX7_merge 297 = .ok (.invokevirtual 126, 3) := by decide +kernel
theorem dX7_merge_300 : decode cX7_merge 300 = .ok (.ifCond .ne 48, 3) := by decide +kernel
theorem dX7_merge_303 : decode cX7_merge 303 = .ok (.aload_n 0, 1) := by decide +kernel
theorem dX7_merge_304 : decode cX7_merge 304 = .ok (.iload 8, 2) := by decide +kernel
theorem dX7_merge_306 : decode cX7_merge 306 = .ok (.aload_n 0, 1) := by decide +kernel
theorem dX7_merge_307 : decode cX7_merge 307 = .ok (.iload 5, 2) := by decide +kernel
theorem dX7_merge_309 : decode cX7_merge 309 = .ok (.iload 7, 2) := by decide +kernel
theorem dX7_merge_311 : decode cX7_merge 311 = .ok (.invokevirtual 89, 3) := by decide +kernel
theorem dX7_merge_314 : decode cX7_merge 314 = .ok (.invokevirtual 126, 3) := by decide +kernel
theorem dX7_merge_317 : decode cX7_merge 317 = .ok (.ifCond .ne 31, 3) := by decide +kernel
theorem dX7_merge_320 : decode cX7_merge 320 = .ok (.aload_n 0, 1) := by decide +kernel
theorem dX7_merge_321 : decode cX7_merge 321 = .ok (.iload 9, 2) := by decide +kernel
theorem dX7_merge_323 : decode cX7_merge 323 = .ok (.aload_n 0, 1) := by decide +kernel
theorem dX7_merge_324 : decode cX7_merge 324 = .ok (.iload 5, 2) := by decide +kernel
theorem dX7_merge_326 : decode cX7_merge 326 = .ok (.iload 7, 2) := by decide +kernel
theorem dX7_merge_328 : decode cX7_merge 328 = .ok (.invokevirtual 89, 3) := by decide +kernel
theorem dX7_merge_331 : decode cX7_merge 331 = .ok (.invokevirtual 126, 3) := by decide +kernel
theorem dX7_merge_334 : decode cX7_merge 334 = .ok (.ifCond .ne 14, 3) := by decide +kernel
theorem dX7_merge_337 : decode cX7_merge 337 = .ok (.iload 11, 2) := by decide +kernel
theorem dX7_merge_339 : decode cX7_merge 339 = .ok (.bipush 98, 2) := by decide +kernel
theorem dX7_merge_341 : decode cX7_merge 341 = .ok (.if_icmp .ne 7, 3) := by decide +kernel
theorem dX7_merge_344 : decode cX7_merge 344 = .ok (.iconst 1, 1) := by decide +kernel
theorem dX7_merge_345 : decode cX7_merge 345 = .ok (.goto 4, 3) := by decide +kernel
theorem dX7_merge_348 : decode cX7_merge 348 = .ok (.iconst 0, 1) := by decide +kernel
theorem dX7_merge_349 : decode cX7_merge 349 = .ok (.istore 13, 2) := by decide +kernel
theorem dX7_merge_351 : decode cX7_merge 351 = .ok (.iload 13, 2) := by decide +kernel
theorem dX7_merge_353 : decode cX7_merge 353 = .ok (.ifCond .eq 11, 3) := by decide +kernel
theorem dX7_merge_356 : decode cX7_merge 356 = .ok (.aload_n 0, 1) := by decide +kernel
theorem dX7_merge_357 : decode cX7_merge 357 = .ok (.iload 9, 2) := by decide +kernel
theorem dX7_merge_359 : decode cX7_merge 359 = .ok (.iload 10, 2) := by decide +kernel
theorem dX7_merge_361 : decode cX7_merge 361 = .ok (.invokevirtual 132, 3) := by decide +kernel
theorem dX7_merge_364 : decode cX7_merge 364 = .ok (.iinc 7 1, 3) := by decide +kernel
theorem dX7_merge_367 : decode cX7_merge 367 = .ok (.goto (-247), 3) := by decide +kernel
theorem dX7_merge_370 : decode cX7_merge 370 = .ok (.aload_n 0, 1) := by decide +kernel
theorem dX7_merge_371 : decode cX7_merge 371 = .ok (.iload 6, 2) := by decide +kernel
theorem dX7_merge_373 : decode cX7_merge 373 = .ok (.iload_n 1, 1) := by decide +kernel
theorem dX7_merge_374 : decode cX7_merge 374 = .ok (.invokevirtual 135, 3) := by decide +kernel
theorem dX7_merge_377 : decode cX7_merge 377 = .ok (.aload_n 0, 1) := by decide +kernel
theorem dX7_merge_378 : decode cX7_merge 378 = .ok (.iload 6, 2) := by decide +kernel
theorem dX7_merge_380 : decode cX7_merge 380 = .ok (.iload_n 2, 1) := by decide +kernel
theorem dX7_merge_381 : decode cX7_merge 381 = .ok (.invokevirtual 135, 3) := by decide +kernel
theorem dX7_merge_384 : decode cX7_merge 384 = .ok (.aload_n 0, 1) := by decide +kernel
theorem dX7_merge_385 : decode cX7_merge 385 = .ok (.iload 6, 2) := by decide +kernel
theorem dX7_merge_387 : decode cX7_merge 387 = .ok (.invokevirtual 93, 3) := by decide +kernel
theorem dX7_merge_390 : decode cX7_merge 390 = .ok (.ireturn, 1) := by decide +kernel
theorem dX7_asksAgain_0 : decode cX7_asksAgain 0 = .ok (.aload_n 0, 1) := by decide +kernel
theorem dX7_asksAgain_1 : decode cX7_asksAgain 1 = .ok (.getfield 39, 3) := by decide +kernel
theorem dX7_asksAgain_4 : decode cX7_asksAgain 4 = .ok (.iload_n 1, 1) := by decide +kernel
theorem dX7_asksAgain_5 : decode cX7_asksAgain 5 = .ok (.iaload, 1) := by decide +kernel
theorem dX7_asksAgain_6 : decode cX7_asksAgain 6 = .ok (.istore_n 3, 1) := by decide +kernel
theorem dX7_asksAgain_7 : decode cX7_asksAgain 7 = .ok (.aload_n 0, 1) := by decide +kernel
theorem dX7_asksAgain_8 : decode cX7_asksAgain 8 = .ok (.iload_n 1, 1) := by decide +kernel
theorem dX7_asksAgain_9 : decode cX7_asksAgain 9 = .ok (.iload_n 2, 1) := by decide +kernel
theorem dX7_asksAgain_10 : decode cX7_asksAgain 10 = .ok (.invokevirtual 138, 3) := by decide +kernel
theorem dX7_asksAgain_13 : decode cX7_asksAgain 13 = .ok (.ifCond .ne 4, 3) := by decide +kernel
theorem dX7_asksAgain_16 : decode cX7_asksAgain 16 = .ok (.return_, 1) := by decide +kernel
theorem dX7_asksAgain_17 : decode cX7_asksAgain 17 = .ok (.iconst 0, 1) := by decide +kernel
theorem dX7_asksAgain_18 : decode cX7_asksAgain 18 = .ok (.istore 4, 2) := by decide +kernel
theorem dX7_asksAgain_20 : decode cX7_asksAgain 20 = .ok (.iload 4, 2) := by decide +kernel
theorem dX7_asksAgain_22 : decode cX7_asksAgain 22 = .ok (.iconst 4, 1) := by decide +kernel
theorem dX7_asksAgain_23 : decode cX7_asksAgain 23 = .ok (.if_icmp .ge 88, 3) := by decide +kernel
theorem dX7_asksAgain_26 : decode cX7_asksAgain 26 = .ok (.iconst 0, 1) := by decide +kernel
theorem dX7_asksAgain_27 : decode cX7_asksAgain 27 = .ok (.istore 5, 2) := by decide +kernel
theorem dX7_asksAgain_29 : decode cX7_asksAgain 29 = .ok (.iload 5, 2) := by decide +kernel
theorem dX7_asksAgain_31 : decode cX7_asksAgain 31 = .ok (.iconst 5, 1) := by decide +kernel
theorem dX7_asksAgain_32 : decode cX7_asksAgain 32 = .ok (.if_icmp .ge 73, 3) := by decide +kernel
theorem dX7_asksAgain_35 : decode cX7_asksAgain 35 = .ok (.iconst 5, 1) := by decide +kernel
theorem dX7_asksAgain_36 : decode cX7_asksAgain 36 = .ok (.bipush 6, 2) := by decide +kernel
theorem dX7_asksAgain_38 : decode cX7_asksAgain 38 = .ok (.iload 4, 2) := by decide +kernel
theorem dX7_asksAgain_40 : decode cX7_asksAgain 40 = .ok (.imul, 1) := by decide +kernel
theorem dX7_asksAgain_41 : decode cX7_asksAgain 41 = .ok (.iload_n 3, 1) := by decide +kernel
theorem dX7_asksAgain_42 : decode cX7_asksAgain 42 = .ok (.iadd, 1) := by decide +kernel
theorem dX7_asksAgain_43 : decode cX7_asksAgain 43 = .ok (.imul, 1) := by decide +kernel
theorem dX7_asksAgain_44 : decode cX7_asksAgain 44 = .ok (.iload 5, 2) := by decide +kernel
theorem dX7_asksAgain_46 : decode cX7_asksAgain 46 = .ok (.iadd, 1) := by decide +kernel
theorem dX7_asksAgain_47 : decode cX7_asksAgain 47 = .ok (.istore 6, 2) := by decide +kernel
theorem dX7_asksAgain_49 : decode cX7_asksAgain 49 = .ok (.aload_n 0, 1) := by decide +kernel
theorem dX7_asksAgain_50 : decode cX7_asksAgain 50 = .ok (.getfield 61, 3) := by decide +kernel
theorem dX7_asksAgain_53 : decode cX7_asksAgain 53 = .ok (.iload 6, 2) := by decide +kernel
theorem dX7_asksAgain_55 : decode cX7_asksAgain 55 = .ok (.aload_n 0, 1) := by decide +kernel
theorem dX7_asksAgain_56 : decode cX7_asksAgain 56 = .ok (.getfield 61, 3) := by decide +kernel
theorem dX7_asksAgain_59 : decode cX7_asksAgain 59 = .ok (.iload 6, 2) := by decide +kernel
theorem dX7_asksAgain_61 : decode cX7_asksAgain 61 = .ok (.baload, 1) := by decide +kernel
theorem dX7_asksAgain_62 : decode cX7_asksAgain 62 = .ok (.ifCond .ne 31, 3) := by decide +kernel
theorem dX7_asksAgain_65 : decode cX7_asksAgain 65 = .ok (.aload_n 0, 1) := by decide +kernel
theorem dX7_asksAgain_66 : decode cX7_asksAgain 66 = .ok (.getfield 55, 3) := by decide +kernel
theorem dX7_asksAgain_69 : decode cX7_asksAgain 69 = .ok (.bipush 6, 2) := by decide +kernel
theorem dX7_asksAgain_71 : decode cX7_asksAgain 71 = .ok (.iload 4, 2) := by decide +kernel
theorem dX7_asksAgain_73 : decode cX7_asksAgain 73 = .ok (.imul, 1) := by decide +kernel
theorem dX7_asksAgain_74 : decode cX7_asksAgain 74 = .ok (.iload_n 3, 1) := by decide +kernel
theorem dX7_asksAgain_75 : decode cX7_asksAgain 75 = .ok (.iadd, 1) := by decide +kernel
theorem dX7_asksAgain_76 : decode cX7_asksAgain 76 = .ok (.iaload, 1) := by decide +kernel
theorem dX7_asksAgain_77 : decode cX7_asksAgain 77 = .ok (.iload_n 2, 1) := by decide +kernel
theorem dX7_asksAgain_78 : decode cX7_asksAgain 78 = .ok (.iconst 1, 1) := by decide +kernel
theorem dX7_asksAgain_79 : decode cX7_asksAgain 79 = .ok (.iadd, 1) := by decide +kernel
theorem dX7_asksAgain_80 : decode cX7_asksAgain 80 = .ok (.if_icmp .ne 17, 3) := by decide +kernel
theorem dX7_asksAgain_83 : decode cX7_asksAgain 83 = .ok (.aload_n 0, 1) := by decide +kernel
theorem dX7_asksAgain_84 : decode cX7_asksAgain 84 = .ok (.getfield 58, 3) := by decide +kernel
theorem dX7_asksAgain_87 : decode cX7_asksAgain 87 = .ok (.iload 6, 2) := by decide +kernel
theorem dX7_asksAgain_89 : decode cX7_asksAgain 89 = .ok (.iaload, 1) := by decide +kernel
theorem dX7_asksAgain_90 : decode cX7_asksAgain 90 = .ok (.ifCond .le 7, 3) := by decide +kernel
theorem dX7_asksAgain_93 : decode cX7_asksAgain 93 = .ok (.iconst 1, 1) := by decide +kernel
theorem dX7_asksAgain_94 : decode cX7_asksAgain 94 = .ok (.goto 4, 3) := by decide +kernel
theorem dX7_asksAgain_97 : decode cX7_asksAgain 97 = .ok (.iconst 0, 1) := by decide +kernel
theorem dX7_asksAgain_98 : decode cX7_asksAgain 98 = .ok (.bastore, 1) := by decide +kernel
theorem dX7_asksAgain_99 : decode cX7_asksAgain 99 = .ok (.iinc 5 1, 3) := by decide +kernel
theorem dX7_asksAgain_102 : decode cX7_asksAgain 102 = .ok (.goto (-73), 3) := by decide +kernel
theorem dX7_asksAgain_105 : decode cX7_asksAgain 105 = .ok (.iinc 4 1, 3) := by decide +kernel
theorem dX7_asksAgain_108 : decode cX7_asksAgain 108 = .ok (.goto (-88), 3) := by decide +kernel
theorem dX7_asksAgain_111 : decode cX7_asksAgain 111 = .ok (.return_, 1) := by decide +kernel
theorem dX7_base_0 : decode cX7_base 0 = .ok (.aload_n 0, 1) := by decide +kernel
theorem dX7_base_1 : decode cX7_base 1 = .ok (.iload_n 1, 1) := by decide +kernel
theorem dX7_base_2 : decode cX7_base 2 = .ok (.invokevirtual 100, 3) := by decide +kernel
theorem dX7_base_5 : decode cX7_base 5 = .ok (.ifCond .eq 11, 3) := by decide +kernel
theorem dX7_base_8 : decode cX7_base 8 = .ok (.aload_n 0, 1) := by decide +kernel
theorem dX7_base_9 : decode cX7_base 9 = .ok (.iload_n 2, 1) := by decide +kernel
theorem dX7_base_10 : decode cX7_base 10 = .ok (.invokevirtual 100, 3) := by decide +kernel
theorem dX7_base_13 : decode cX7_base 13 = .ok (.ifCond .ne 9, 3) := by decide +kernel
theorem dX7_base_16 : decode cX7_base 16 = .ok (.aload_n 0, 1) := by decide +kernel
theorem dX7_base_17 : decode cX7_base 17 = .ok (.iconst 1, 1) := by decide +kernel
theorem dX7_base_18 : decode cX7_base 18 = .ok (.invokevirtual 81, 3) := by decide +kernel
theorem dX7_base_21 : decode cX7_base 21 = .ok (.ireturn, 1) := by decide +kernel
theorem dX7_base_22 : decode cX7_base 22 = .ok (.aload_n 0, 1) := by decide +kernel
theorem dX7_base_23 : decode cX7_base 23 = .ok (.getfield 39, 3) := by decide +kernel
theorem dX7_base_26 : decode cX7_base 26 = .ok (.iload_n 1, 1) := by decide +kernel
theorem dX7_base_27 : decode cX7_base 27 = .ok (.iaload, 1) := by decide +kernel
theorem dX7_base_28 : decode cX7_base 28 = .ok (.aload_n 0, 1) := by decide +kernel
theorem dX7_base_29 : decode cX7_base 29 = .ok (.getfield 39, 3) := by decide +kernel
theorem dX7_base_32 : decode cX7_base 32 = .ok (.iload_n 2, 1) := by decide +kernel
theorem dX7_base_33 : decode cX7_base 33 = .ok (.iaload, 1) := by decide +kernel
theorem dX7_base_34 : decode cX7_base 34 = .ok (.if_icmp .ne 16, 3) := by decide +kernel
theorem dX7_base_37 : decode cX7_base 37 = .ok (.aload_n 0, 1) := by decide +kernel
theorem dX7_base_38 : decode cX7_base 38 = .ok (.aload_n 0, 1) := by decide +kernel
theorem dX7_base_39 : decode cX7_base 39 = .ok (.iload_n 1, 1) := by decide +kernel
theorem dX7_base_40 : decode cX7_base 40 = .ok (.iload_n 2, 1) := by decide +kernel
theorem dX7_base_41 : decode cX7_base 41 = .ok (.invokevirtual 123, 3) := by decide +kernel
theorem dX7_base_44 : decode cX7_base 44 = .ok (.invokevirtual 93, 3) := by decide +kernel
theorem dX7_base_47 : decode cX7_base 47 = .ok (.goto 8, 3) := by decide +kernel
theorem dX7_base_50 : decode cX7_base 50 = .ok (.aload_n 0, 1) := by decide +kernel
theorem dX7_base_51 : decode cX7_base 51 = .ok (.iconst 2, 1) := by decide +kernel
theorem dX7_base_52 : decode cX7_base 52 = .ok (.invokevirtual 81, 3) := by decide +kernel
theorem dX7_base_55 : decode cX7_base 55 = .ok (.ireturn, 1) := by decide +kernel
theorem dX7_isAbove_0 : decode cX7_isAbove 0 = .ok (.aload_n 0, 1) := by decide +kernel
theorem dX7_isAbove_1 : decode cX7_isAbove 1 = .ok (.aload_n 0, 1) := by decide +kernel
theorem dX7_isAbove_2 : decode cX7_isAbove 2 = .ok (.iload_n 1, 1) := by decide +kernel
theorem dX7_isAbove_3 : decode cX7_isAbove 3 = .ok (.invokevirtual 100, 3) := by decide +kernel
theorem dX7_isAbove_6 : decode cX7_isAbove 6 = .ok (.ifCond .eq 15, 3) := by decide +kernel
theorem dX7_isAbove_9 : decode cX7_isAbove 9 = .ok (.aload_n 0, 1) := by decide +kernel
theorem dX7_isAbove_10 : decode cX7_isAbove 10 = .ok (.iload_n 2, 1) := by decide +kernel
theorem dX7_isAbove_11 : decode cX7_isAbove 11 = .ok (.invokevirtual 100, 3) := by decide +kernel
theorem dX7_isAbove_14 : decode cX7_isAbove 14 = .ok (.ifCond .eq 7, 3) := by decide +kernel
theorem dX7_isAbove_17 : decode cX7_isAbove 17 = .ok (.iconst 0, 1) := by decide +kernel
theorem dX7_isAbove_18 : decode cX7_isAbove 18 = .ok (.goto 4, 3) := by decide +kernel
theorem dX7_isAbove_21 : decode cX7_isAbove 21 = .ok (.iconst 1, 1) := by decide +kernel
theorem dX7_isAbove_22 : decode cX7_isAbove 22 = .ok (.putfield 22, 3) := by decide +kernel
theorem dX7_isAbove_25 : decode cX7_isAbove 25 = .ok (.aload_n 0, 1) := by decide +kernel
theorem dX7_isAbove_26 : decode cX7_isAbove 26 = .ok (.getfield 22, 3) := by decide +kernel
theorem dX7_isAbove_29 : decode cX7_isAbove 29 = .ok (.ifCond .ne 16, 3) := by decide +kernel
theorem dX7_isAbove_32 : decode cX7_isAbove 32 = .ok (.aload_n 0, 1) := by decide +kernel
theorem dX7_isAbove_33 : decode cX7_isAbove 33 = .ok (.iload_n 1, 1) := by decide +kernel
theorem dX7_isAbove_34 : decode cX7_isAbove 34 = .ok (.iload_n 2, 1) := by decide +kernel
theorem dX7_isAbove_35 : decode cX7_isAbove 35 = .ok (.invokevirtual 116, 3) := by decide +kernel
theorem dX7_isAbove_38 : decode cX7_isAbove 38 = .ok (.ifCond .eq 7, 3) := by decide +kernel
theorem dX7_isAbove_41 : decode cX7_isAbove 41 = .ok (.iconst 1, 1) := by decide +kernel
theorem dX7_isAbove_42 : decode cX7_isAbove 42 = .ok (.goto 4, 3) := by decide +kernel
theorem dX7_isAbove_45 : decode cX7_isAbove 45 = .ok (.iconst 0, 1) := by decide +kernel
theorem dX7_isAbove_46 : decode cX7_isAbove 46 = .ok (.ireturn, 1) := by decide +kernel
theorem dX7_rows_0 : decode cX7_rows 0 = .ok (.aload_n 0, 1) := by decide +kernel
theorem dX7_rows_1 : decode cX7_rows 1 = .ok (.iload_n 1, 1) := by decide +kernel
theorem dX7_rows_2 : decode cX7_rows 2 = .ok (.iload_n 2, 1) := by decide +kernel
theorem dX7_rows_3 : decode cX7_rows 3 = .ok (.iload_n 3, 1) := by decide +kernel
theorem dX7_rows_4 : decode cX7_rows 4 = .ok (.invokevirtual 103, 3) := by decide +kernel
theorem dX7_rows_7 : decode cX7_rows 7 = .ok (.ifCond .eq 22, 3) := by decide +kernel
theorem dX7_rows_10 : decode cX7_rows 10 = .ok (.aload_n 0, 1) := by decide +kernel
theorem dX7_rows_11 : decode cX7_rows 11 = .ok (.aload_n 0, 1) := by decide +kernel
theorem dX7_rows_12 : decode cX7_rows 12 = .ok (.getfield 49, 3) := by decide +kernel
theorem dX7_rows_15 : decode cX7_rows 15 = .ok (.aload_n 0, 1) := by decide +kernel
theorem dX7_rows_16 : decode cX7_rows 16 = .ok (.iload_n 1, 1) := by decide +kernel
theorem dX7_rows_17 : decode cX7_rows 17 = .ok (.iload_n 2, 1) := by decide +kernel
theorem dX7_rows_18 : decode cX7_rows 18 = .ok (.iload_n 3, 1) := by decide +kernel
theorem dX7_rows_19 : decode cX7_rows 19 = .ok (.invokevirtual 113, 3) := by decide +kernel
theorem dX7_rows_22 : decode cX7_rows 22 = .ok (.iaload, 1) := by decide +kernel
theorem dX7_rows_23 : decode cX7_rows 23 = .ok (.invokevirtual 93, 3) := by decide +kernel
theorem dX7_rows_26 : decode cX7_rows 26 = .ok (.goto 8, 3) := by decide +kernel
theorem dX7_rows_29 : decode cX7_rows 29 = .ok (.aload_n 0, 1) := by decide +kernel
theorem dX7_rows_30 : decode cX7_rows 30 = .ok (.iconst 1, 1) := by decide +kernel
theorem dX7_rows_31 : decode cX7_rows 31 = .ok (.invokevirtual 81, 3) := by decide +kernel
theorem dX7_rows_34 : decode cX7_rows 34 = .ok (.ireturn, 1) := by decide +kernel
theorem dX7_noteAt_0 : decode cX7_noteAt 0 = .ok (.aload_n 0, 1) := by decide +kernel
theorem dX7_noteAt_1 : decode cX7_noteAt 1 = .ok (.iload_n 1, 1) := by decide +kernel
theorem dX7_noteAt_2 : decode cX7_noteAt 2 = .ok (.iload_n 2, 1) := by decide +kernel
theorem dX7_noteAt_3 : decode cX7_noteAt 3 = .ok (.iload_n 3, 1) := by decide +kernel
theorem dX7_noteAt_4 : decode cX7_noteAt 4 = .ok (.invokevirtual 103, 3) := by decide +kernel
theorem dX7_noteAt_7 : decode cX7_noteAt 7 = .ok (.ifCond .ne 9, 3) := by decide +kernel
theorem dX7_noteAt_10 : decode cX7_noteAt 10 = .ok (.aload_n 0, 1) := by decide +kernel
theorem dX7_noteAt_11 : decode cX7_noteAt 11 = .ok (.iconst 1, 1) := by decide +kernel
theorem dX7_noteAt_12 : decode cX7_noteAt 12 = .ok (.invokevirtual 81, 3) := by decide +kernel
theorem dX7_noteAt_15 : decode cX7_noteAt 15 = .ok (.ireturn, 1) := by decide +kernel
theorem dX7_noteAt_16 : decode cX7_noteAt 16 = .ok (.aload_n 0, 1) := by decide +kernel
theorem dX7_noteAt_17 : decode cX7_noteAt 17 = .ok (.iload_n 1, 1) := by decide +kernel
theorem dX7_noteAt_18 : decode cX7_noteAt 18 = .ok (.iload_n 2, 1) := by decide +kernel
theorem dX7_noteAt_19 : decode cX7_noteAt 19 = .ok (.iload_n 3, 1) := by decide +kernel
theorem dX7_noteAt_20 : decode cX7_noteAt 20 = .ok (.invokevirtual 113, 3) := by decide +kernel
theorem dX7_noteAt_23 : decode cX7_noteAt 23 = .ok (.istore 6, 2) := by decide +kernel
theorem dX7_noteAt_25 : decode cX7_noteAt 25 = .ok (.iload 4, 2) := by decide +kernel
theorem dX7_noteAt_27 : decode cX7_noteAt 27 = .ok (.iconst 0, 1) := by decide +kernel
theorem dX7_noteAt_28 : decode cX7_noteAt 28 = .ok (.aload_n 0, 1) := by decide +kernel
theorem dX7_noteAt_29 : decode cX7_noteAt 29 = .ok (.getfield 49, 3) := by decide +kernel
theorem dX7_noteAt_32 : decode cX7_noteAt 32 = .ok (.iload 6, 2) := by decide +kernel
theorem dX7_noteAt_34 : decode cX7_noteAt 34 = .ok (.iaload, 1) := by decide +kernel
theorem dX7_noteAt_35 : decode cX7_noteAt 35 = .ok (.iconst 1, 1) := by decide +kernel
theorem dX7_noteAt_36 : decode cX7_noteAt 36 = .ok (.isub, 1) := by decide +kernel
theorem dX7_noteAt_37 : decode cX7_noteAt 37 = .ok (.invokestatic 77, 3) := by decide +kernel
theorem dX7_noteAt_40 : decode cX7_noteAt 40 = .ok (.ifCond .eq 29, 3) := by decide +kernel
theorem dX7_noteAt_43 : decode cX7_noteAt 43 = .ok (.iload 5, 2) := by decide +kernel
theorem dX7_noteAt_45 : decode cX7_noteAt 45 = .ok (.iconst 0, 1) := by decide +kernel
theorem dX7_noteAt_46 : decode cX7_noteAt 46 = .ok (.aload_n 0, 1) := by decide +kernel
theorem dX7_noteAt_47 : decode cX7_noteAt 47 = .ok (.getfield 49, 3) := by decide +kernel
theorem dX7_noteAt_50 : decode cX7_noteAt 50 = .ok (.iload 6, 2) := by decide +kernel
theorem dX7_noteAt_52 : decode cX7_noteAt 52 = .ok (.iconst 2, 1) := by decide +kernel
theorem dX7_noteAt_53 : decode cX7_noteAt 53 = .ok (.iadd, 1) := by decide +kernel
theorem dX7_noteAt_54 : decode cX7_noteAt 54 = .ok (.bipush 10, 2) := by decide +kernel
theorem dX7_noteAt_56 : decode cX7_noteAt 56 = .ok (.iload 4, 2) := by decide +kernel
theorem dX7_noteAt_58 : decode cX7_noteAt 58 = .ok (.imul, 1) := by decide +kernel
theorem dX7_noteAt_59 : decode cX7_noteAt 59 = .ok (.iadd, 1) := by decide +kernel
theorem dX7_noteAt_60 : decode cX7_noteAt 60 = .ok (.iaload, 1) := by decide +kernel
theorem dX7_noteAt_61 : decode cX7_noteAt 61 = .ok (.iconst 1, 1) := by decide +kernel
theorem dX7_noteAt_62 : decode cX7_noteAt 62 = .ok (.isub, 1) := by decide +kernel
theorem dX7_noteAt_63 : decode cX7_noteAt 63 = .ok (.invokestatic 77, 3) := by decide +kernel
theorem dX7_noteAt_66 : decode cX7_noteAt 66 = .ok (.ifCond .ne 9, 3) := by decide +kernel
theorem dX7_noteAt_69 : decode cX7_noteAt 69 = .ok (.aload_n 0, 1) := by decide +kernel
theorem dX7_noteAt_70 : decode cX7_noteAt 70 = .ok (.iconst 2, 1) := by decide +kernel
theorem dX7_noteAt_71 : decode cX7_noteAt 71 = .ok (.invokevirtual 81, 3) := by decide +kernel
theorem dX7_noteAt_74 : decode cX7_noteAt 74 = .ok (.ireturn, 1) := by decide +kernel
theorem dX7_noteAt_75 : decode cX7_noteAt 75 = .ok (.aload_n 0, 1) := by decide +kernel
theorem dX7_noteAt_76 : decode cX7_noteAt 76 = .ok (.aload_n 0, 1) := by decide +kernel
theorem dX7_noteAt_77 : decode cX7_noteAt 77 = .ok (.getfield 49, 3) := by decide +kernel
theorem dX7_noteAt_80 : decode cX7_noteAt 80 = .ok (.iload 6, 2) := by decide +kernel
theorem dX7_noteAt_82 : decode cX7_noteAt 82 = .ok (.iconst 3, 1) := by decide +kernel
theorem dX7_noteAt_83 : decode cX7_noteAt 83 = .ok (.iadd, 1) := by decide +kernel
theorem dX7_noteAt_84 : decode cX7_noteAt 84 = .ok (.bipush 10, 2) := by decide +kernel
theorem dX7_noteAt_86 : decode cX7_noteAt 86 = .ok (.iload 4, 2) := by decide +kernel
theorem dX7_noteAt_88 : decode cX7_noteAt 88 = .ok (.imul, 1) := by decide +kernel
theorem dX7_noteAt_89 : decode cX7_noteAt 89 = .ok (.iadd, 1) := by decide +kernel
theorem dX7_noteAt_90 : decode cX7_noteAt 90 = .ok (.iload 5, 2) := by decide +kernel
theorem dX7_noteAt_92 : decode cX7_noteAt 92 = .ok (.iadd, 1) := by decide +kernel
theorem dX7_noteAt_93 : decode cX7_noteAt 93 = .ok (.iaload, 1) := by decide +kernel
theorem dX7_noteAt_94 : decode cX7_noteAt 94 = .ok (.invokevirtual 93, 3) := by decide +kernel
theorem dX7_noteAt_97 : decode cX7_noteAt 97 = .ok (.ireturn, 1) := by decide +kernel
theorem dX7_writer_0 : decode cX7_writer 0 = .ok (.aload_n 0, 1) := by decide +kernel
theorem dX7_writer_1 : decode cX7_writer 1 = .ok (.iload_n 1, 1) := by decide +kernel
theorem dX7_writer_2 : decode cX7_writer 2 = .ok (.iload_n 2, 1) := by decide +kernel
theorem dX7_writer_3 : decode cX7_writer 3 = .ok (.iload_n 3, 1) := by decide +kernel
theorem dX7_writer_4 : decode cX7_writer 4 = .ok (.invokevirtual 103, 3) := by decide +kernel
theorem dX7_writer_7 : decode cX7_writer 7 = .ok (.ifCond .ne 9, 3) := by decide +kernel
theorem dX7_writer_10 : decode cX7_writer 10 = .ok (.aload_n 0, 1) := by decide +kernel
theorem dX7_writer_11 : decode cX7_writer 11 = .ok (.iconst 1, 1) := by decide +kernel
theorem dX7_writer_12 : decode cX7_writer 12 = .ok (.invokevirtual 81, 3) := by decide +kernel
theorem dX7_writer_15 : decode cX7_writer 15 = .ok (.ireturn, 1) := by decide +kernel
theorem dX7_writer_16 : decode cX7_writer 16 = .ok (.aload_n 0, 1) := by decide +kernel
theorem dX7_writer_17 : decode cX7_writer 17 = .ok (.iload_n 1, 1) := by decide +kernel
theorem dX7_writer_18 : decode cX7_writer 18 = .ok (.iload_n 2, 1) := by decide +kernel
theorem dX7_writer_19 : decode cX7_writer 19 = .ok (.iload_n 3, 1) := by decide +kernel
theorem dX7_writer_20 : decode cX7_writer 20 = .ok (.invokevirtual 113, 3) := by decide +kernel
theorem dX7_writer_23 : decode cX7_writer 23 = .ok (.istore 5, 2) := by decide +kernel
theorem dX7_writer_25 : decode cX7_writer 25 = .ok (.iload 4, 2) := by decide +kernel
theorem dX7_writer_27 : decode cX7_writer 27 = .ok (.iconst 0, 1) := by decide +kernel
theorem dX7_writer_28 : decode cX7_writer 28 = .ok (.aload_n 0, 1) := by decide +kernel
theorem dX7_writer_29 : decode cX7_writer 29 = .ok (.getfield 49, 3) := by decide +kernel
theorem dX7_writer_32 : decode cX7_writer 32 = .ok (.iload 5, 2) := by decide +kernel
theorem dX7_writer_34 : decode cX7_writer 34 = .ok (.iaload, 1) := by decide +kernel
theorem dX7_writer_35 : decode cX7_writer 35 = .ok (.iconst 1, 1) := by decide +kernel
theorem dX7_writer_36 : decode cX7_writer 36 = .ok (.isub, 1) := by decide +kernel
theorem dX7_writer_37 : decode cX7_writer 37 = .ok (.invokestatic 77, 3) := by decide +kernel
theorem dX7_writer_40 : decode cX7_writer 40 = .ok (.ifCond .eq 25, 3) := by decide +kernel
theorem dX7_writer_43 : decode cX7_writer 43 = .ok (.aload_n 0, 1) := by decide +kernel
theorem dX7_writer_44 : decode cX7_writer 44 = .ok (.aload_n 0, 1) := by decide +kernel
theorem dX7_writer_45 : decode cX7_writer 45 = .ok (.getfield 49, 3) := by decide +kernel
theorem dX7_writer_48 : decode cX7_writer 48 = .ok (.iload 5, 2) := by decide +kernel
theorem dX7_writer_50 : decode cX7_writer 50 = .ok (.iconst 1, 1) := by decide +kernel
theorem dX7_writer_51 : decode cX7_writer 51 = .ok (.iadd, 1) := by decide +kernel
theorem dX7_writer_52 : decode cX7_writer 52 = .ok (.bipush 10, 2) := by decide +kernel
theorem dX7_writer_54 : decode cX7_writer 54 = .ok (.iload 4, 2) := by decide +kernel
theorem dX7_writer_56 : decode cX7_writer 56 = .ok (.imul, 1) := by decide +kernel
theorem dX7_writer_57 : decode cX7_writer 57 = .ok (.iadd, 1) := by decide +kernel
theorem dX7_writer_58 : decode cX7_writer 58 = .ok (.iaload, 1) := by decide +kernel
theorem dX7_writer_59 : decode cX7_writer 59 = .ok (.invokevirtual 93, 3) := by decide +kernel
theorem dX7_writer_62 : decode cX7_writer 62 = .ok (.goto 8, 3) := by decide +kernel
theorem dX7_writer_65 : decode cX7_writer 65 = .ok (.aload_n 0, 1) := by decide +kernel
theorem dX7_writer_66 : decode cX7_writer 66 = .ok (.iconst 2, 1) := by decide +kernel
theorem dX7_writer_67 : decode cX7_writer 67 = .ok (.invokevirtual 81, 3) := by decide +kernel
theorem dX7_writer_70 : decode cX7_writer 70 = .ok (.ireturn, 1) := by decide +kernel
theorem dX7_doubts_0 : decode cX7_doubts 0 = .ok (.aload_n 0, 1) := by decide +kernel
theorem dX7_doubts_1 : decode cX7_doubts 1 = .ok (.iload_n 1, 1) := by decide +kernel
theorem dX7_doubts_2 : decode cX7_doubts 2 = .ok (.invokevirtual 100, 3) := by decide +kernel
theorem dX7_doubts_5 : decode cX7_doubts 5 = .ok (.ifCond .ne 9, 3) := by decide +kernel
theorem dX7_doubts_8 : decode cX7_doubts 8 = .ok (.aload_n 0, 1) := by decide +kernel
theorem dX7_doubts_9 : decode cX7_doubts 9 = .ok (.iconst 1, 1) := by decide +kernel
theorem dX7_doubts_10 : decode cX7_doubts 10 = .ok (.invokevirtual 81, 3) := by decide +kernel
theorem dX7_doubts_13 : decode cX7_doubts 13 = .ok (.ireturn, 1) := by decide +kernel
theorem dX7_doubts_14 : decode cX7_doubts 14 = .ok (.iconst 0, 1) := by decide +kernel
theorem dX7_doubts_15 : decode cX7_doubts 15 = .ok (.istore_n 2, 1) := by decide +kernel
theorem dX7_doubts_16 : decode cX7_doubts 16 = .ok (.iconst 0, 1) := by decide +kernel
theorem dX7_doubts_17 : decode cX7_doubts 17 = .ok (.istore_n 3, 1) := by decide +kernel
theorem dX7_doubts_18 : decode cX7_doubts 18 = .ok (.iload_n 3, 1) := by decide +kernel
theorem dX7_doubts_19 : decode cX7_doubts 19 = .ok (.aload_n 0, 1) := by decide +kernel
theorem dX7_doubts_20 : decode cX7_doubts 20 = .ok (.aload_n 0, 1) := by decide +kernel
theorem dX7_doubts_21 : decode cX7_doubts 21 = .ok (.getfield 39, 3) := by decide +kernel
theorem dX7_doubts_24 : decode cX7_doubts 24 = .ok (.iload_n 1, 1) := by decide +kernel
theorem dX7_doubts_25 : decode cX7_doubts 25 = .ok (.iaload, 1) := by decide +kernel
theorem dX7_doubts_26 : decode cX7_doubts 26 = .ok (.invokevirtual 106, 3) := by decide +kernel
theorem dX7_doubts_29 : decode cX7_doubts 29 = .ok (.if_icmp .ge 32, 3) := by decide +kernel
theorem dX7_doubts_32 : decode cX7_doubts 32 = .ok (.iload_n 2, 1) := by decide +kernel
theorem dX7_doubts_33 : decode cX7_doubts 33 = .ok (.aload_n 0, 1) := by decide +kernel
theorem dX7_doubts_34 : decode cX7_doubts 34 = .ok (.getfield 49, 3) := by decide +kernel
theorem dX7_doubts_37 : decode cX7_doubts 37 = .ok (.aload_n 0, 1) := by decide +kernel
theorem dX7_doubts_38 : decode cX7_doubts 38 = .ok (.iload_n 1, 1) := by decide +kernel
theorem dX7_doubts_39 : decode cX7_doubts 39 = .ok (.iload_n 3, 1) := by decide +kernel
theorem dX7_doubts_40 : decode cX7_doubts 40 = .ok (.invokevirtual 89, 3) := by decide +kernel
theorem dX7_doubts_43 : decode cX7_doubts 43 = .ok (.iaload, 1) := by decide +kernel
theorem dX7_doubts_44 : decode cX7_doubts 44 = .ok (.iconst 1, 1) := by decide +kernel
theorem dX7_doubts_45 : decode cX7_doubts 45 = .ok (.if_icmp .le 7, 3) := by decide +kernel
theorem dX7_doubts_48 : decode cX7_doubts 48 = .ok (.iconst 1, 1) := by decide +kernel
theorem dX7_doubts_49 : decode cX7_doubts 49 = .ok (.goto 4, 3) := by decide +kernel
theorem dX7_doubts_52 : decode cX7_doubts 52 = .ok (.iconst 0, 1) := by decide +kernel
theorem dX7_doubts_53 : decode cX7_doubts 53 = .ok (.iadd, 1) := by decide +kernel
theorem dX7_doubts_54 : decode cX7_doubts 54 = .ok (.istore_n 2, 1) := by decide +kernel
theorem dX7_doubts_55 : decode cX7_doubts 55 = .ok (.iinc 3 1, 3) := by decide +kernel
theorem dX7_doubts_58 : decode cX7_doubts 58 = .ok (.goto (-40), 3) := by decide +kernel
theorem dX7_doubts_61 : decode cX7_doubts 61 = .ok (.aload_n 0, 1) := by decide +kernel
theorem dX7_doubts_62 : decode cX7_doubts 62 = .ok (.iload_n 2, 1) := by decide +kernel
theorem dX7_doubts_63 : decode cX7_doubts 63 = .ok (.invokevirtual 93, 3) := by decide +kernel
theorem dX7_doubts_66 : decode cX7_doubts 66 = .ok (.ireturn, 1) := by decide +kernel
theorem dX7_unlikeOf_0 : decode cX7_unlikeOf 0 = .ok (.iconst 0, 1) := by decide +kernel
theorem dX7_unlikeOf_1 : decode cX7_unlikeOf 1 = .ok (.istore_n 3, 1) := by decide +kernel
theorem dX7_unlikeOf_2 : decode cX7_unlikeOf 2 = .ok (.iconst 0, 1) := by decide +kernel
theorem dX7_unlikeOf_3 : decode cX7_unlikeOf 3 = .ok (.istore 4, 2) := by decide +kernel
theorem dX7_unlikeOf_5 : decode cX7_unlikeOf 5 = .ok (.iload 4, 2) := by decide +kernel
theorem dX7_unlikeOf_7 : decode cX7_unlikeOf 7 = .ok (.aload_n 0, 1) := by decide +kernel
theorem dX7_unlikeOf_8 : decode cX7_unlikeOf 8 = .ok (.aload_n 0, 1) := by decide +kernel
theorem dX7_unlikeOf_9 : decode cX7_unlikeOf 9 = .ok (.getfield 39, 3) := by decide +kernel
theorem dX7_unlikeOf_12 : decode cX7_unlikeOf 12 = .ok (.iload_n 1, 1) := by decide +kernel
theorem dX7_unlikeOf_13 : decode cX7_unlikeOf 13 = .ok (.iaload, 1) := by decide +kernel
theorem dX7_unlikeOf_14 : decode cX7_unlikeOf 14 = .ok (.invokevirtual 106, 3) := by decide +kernel
theorem dX7_unlikeOf_17 : decode cX7_unlikeOf 17 = .ok (.if_icmp .ge 38, 3) := by decide +kernel
theorem dX7_unlikeOf_20 : decode cX7_unlikeOf 20 = .ok (.iload_n 3, 1) := by decide +kernel
theorem dX7_unlikeOf_21 : decode cX7_unlikeOf 21 = .ok (.aload_n 0, 1) := by decide +kernel
theorem dX7_unlikeOf_22 : decode cX7_unlikeOf 22 = .ok (.aload_n 0, 1) := by decide +kernel
theorem dX7_unlikeOf_23 : decode cX7_unlikeOf 23 = .ok (.iload_n 1, 1) := by decide +kernel
theorem dX7_unlikeOf_24 : decode cX7_unlikeOf 24 = .ok (.iload 4, 2) := by decide +kernel
theorem dX7_unlikeOf_26 : decode cX7_unlikeOf 26 = .ok (.invokevirtual 89, 3) := by decide +kernel
theorem dX7_unlikeOf_29 : decode cX7_unlikeOf 29 = .ok (.aload_n 0, 1) := by decide +kernel
theorem dX7_unlikeOf_30 : decode cX7_unlikeOf 30 = .ok (.iload_n 2, 1) := by decide +kernel
theorem dX7_unlikeOf_31 : decode cX7_unlikeOf 31 = .ok (.iload 4, 2) := by decide +kernel
theorem dX7_unlikeOf_33 : decode cX7_unlikeOf 33 = .ok (.invokevirtual 89, 3) := by decide +kernel
theorem dX7_unlikeOf_36 : decode cX7_unlikeOf 36 = .ok (.invokevirtual 126, 3) := by decide +kernel
theorem dX7_unlikeOf_39 : decode cX7_unlikeOf 39 = .ok (.ifCond .eq 7, 3) := by decide +kernel
theorem dX7_unlikeOf_42 : decode cX7_unlikeOf 42 = .ok (.iconst 0, 1) := by decide +kernel
theorem dX7_unlikeOf_43 : decode cX7_unlikeOf 43 = .ok (.goto 4, 3) := by decide +kernel
theorem dX7_unlikeOf_46 : decode cX7_unlikeOf 46 = .ok (.iconst 1, 1) := by decide +kernel
theorem dX7_unlikeOf_47 : decode cX7_unlikeOf 47 = .ok (.iadd, 1) := by decide +kernel
theorem dX7_unlikeOf_48 : decode cX7_unlikeOf 48 = .ok (.istore_n 3, 1) := by decide +kernel
theorem dX7_unlikeOf_49 : decode cX7_unlikeOf 49 = .ok (.iinc 4 1, 3) := by decide +kernel
theorem dX7_unlikeOf_52 : decode cX7_unlikeOf 52 = .ok (.goto (-47), 3) := by decide +kernel
theorem dX7_unlikeOf_55 : decode cX7_unlikeOf 55 = .ok (.iload_n 3, 1) := by decide +kernel
theorem dX7_unlikeOf_56 : decode cX7_unlikeOf 56 = .ok (.ireturn, 1) := by decide +kernel
theorem dX7_unlike_0 : decode cX7_unlike 0 = .ok (.aload_n 0, 1) := by decide +kernel
theorem dX7_unlike_1 : decode cX7_unlike 1 = .ok (.iload_n 1, 1) := by decide +kernel
theorem dX7_unlike_2 : decode cX7_unlike 2 = .ok (.invokevirtual 100, 3) := by decide +kernel
theorem dX7_unlike_5 : decode cX7_unlike 5 = .ok (.ifCond .eq 11, 3) := by decide +kernel
theorem dX7_unlike_8 : decode cX7_unlike 8 = .ok (.aload_n 0, 1) := by decide +kernel
theorem dX7_unlike_9 : decode cX7_unlike 9 = .ok (.iload_n 2, 1) := by decide +kernel
theorem dX7_unlike_10 : decode cX7_unlike 10 = .ok (.invokevirtual 100, 3) := by decide +kernel
theorem dX7_unlike_13 : decode cX7_unlike 13 = .ok (.ifCond .ne 9, 3) := by decide +kernel
theorem dX7_unlike_16 : decode cX7_unlike 16 = .ok (.aload_n 0, 1) := by decide +kernel
theorem dX7_unlike_17 : decode cX7_unlike 17 = .ok (.iconst 1, 1) := by decide +kernel
theorem dX7_unlike_18 : decode cX7_unlike 18 = .ok (.invokevirtual 81, 3) := by decide +kernel
theorem dX7_unlike_21 : decode cX7_unlike 21 = .ok (.ireturn, 1) := by decide +kernel
theorem dX7_unlike_22 : decode cX7_unlike 22 = .ok (.aload_n 0, 1) := by decide +kernel
theorem dX7_unlike_23 : decode cX7_unlike 23 = .ok (.getfield 39, 3) := by decide +kernel
theorem dX7_unlike_26 : decode cX7_unlike 26 = .ok (.iload_n 1, 1) := by decide +kernel
theorem dX7_unlike_27 : decode cX7_unlike 27 = .ok (.iaload, 1) := by decide +kernel
theorem dX7_unlike_28 : decode cX7_unlike 28 = .ok (.aload_n 0, 1) := by decide +kernel
theorem dX7_unlike_29 : decode cX7_unlike 29 = .ok (.getfield 39, 3) := by decide +kernel
theorem dX7_unlike_32 : decode cX7_unlike 32 = .ok (.iload_n 2, 1) := by decide +kernel
theorem dX7_unlike_33 : decode cX7_unlike 33 = .ok (.iaload, 1) := by decide +kernel
theorem dX7_unlike_34 : decode cX7_unlike 34 = .ok (.if_icmp .ne 16, 3) := by decide +kernel
theorem dX7_unlike_37 : decode cX7_unlike 37 = .ok (.aload_n 0, 1) := by decide +kernel
theorem dX7_unlike_38 : decode cX7_unlike 38 = .ok (.aload_n 0, 1) := by decide +kernel
theorem dX7_unlike_39 : decode cX7_unlike 39 = .ok (.iload_n 1, 1) := by decide +kernel
theorem dX7_unlike_40 : decode cX7_unlike 40 = .ok (.iload_n 2, 1) := by decide +kernel
theorem dX7_unlike_41 : decode cX7_unlike 41 = .ok (.invokevirtual 138, 3) := by decide +kernel
theorem dX7_unlike_44 : decode cX7_unlike 44 = .ok (.invokevirtual 93, 3) := by decide +kernel
theorem dX7_unlike_47 : decode cX7_unlike 47 = .ok (.goto 8, 3) := by decide +kernel
theorem dX7_unlike_50 : decode cX7_unlike 50 = .ok (.aload_n 0, 1) := by decide +kernel
theorem dX7_unlike_51 : decode cX7_unlike 51 = .ok (.iconst 2, 1) := by decide +kernel
theorem dX7_unlike_52 : decode cX7_unlike 52 = .ok (.invokevirtual 81, 3) := by decide +kernel
theorem dX7_unlike_55 : decode cX7_unlike 55 = .ok (.ireturn, 1) := by decide +kernel
theorem dX7_isRound_0 : decode cX7_isRound 0 = .ok (.iload_n 0, 1) := by decide +kernel
theorem dX7_isRound_1 : decode cX7_isRound 1 = .ok (.iconst 0, 1) := by decide +kernel
theorem dX7_isRound_2 : decode cX7_isRound 2 = .ok (.iconst 3, 1) := by decide +kernel
theorem dX7_isRound_3 : decode cX7_isRound 3 = .ok (.invokestatic 77, 3) := by decide +kernel
theorem dX7_isRound_6 : decode cX7_isRound 6 = .ok (.ireturn, 1) := by decide +kernel
theorem dX7_hear_0 : decode cX7_hear 0 = .ok (.iload_n 1, 1) := by decide +kernel
theorem dX7_hear_1 : decode cX7_hear 1 = .ok (.invokestatic 141, 3) := by decide +kernel
theorem dX7_hear_4 : decode cX7_hear 4 = .ok (.ifCond .eq 11, 3) := by decide +kernel
theorem dX7_hear_7 : decode cX7_hear 7 = .ok (.aload_n 0, 1) := by decide +kernel
theorem dX7_hear_8 : decode cX7_hear 8 = .ok (.iload_n 2, 1) := by decide +kernel
theorem dX7_hear_9 : decode cX7_hear 9 = .ok (.invokevirtual 100, 3) := by decide +kernel
theorem dX7_hear_12 : decode cX7_hear 12 = .ok (.ifCond .ne 9, 3) := by decide +kernel
theorem dX7_hear_15 : decode cX7_hear 15 = .ok (.aload_n 0, 1) := by decide +kernel
theorem dX7_hear_16 : decode cX7_hear 16 = .ok (.iconst 1, 1) := by decide +kernel
theorem dX7_hear_17 : decode cX7_hear 17 = .ok (.invokevirtual 81, 3) := by decide +kernel
theorem dX7_hear_20 : decode cX7_hear 20 = .ok (.ireturn, 1) := by decide +kernel
theorem dX7_hear_21 : decode cX7_hear 21 = .ok (.bipush 6, 2) := by decide +kernel
theorem dX7_hear_23 : decode cX7_hear 23 = .ok (.iload_n 1, 1) := by decide +kernel
theorem dX7_hear_24 : decode cX7_hear 24 = .ok (.imul, 1) := by decide +kernel
theorem dX7_hear_25 : decode cX7_hear 25 = .ok (.aload_n 0, 1) := by decide +kernel
theorem dX7_hear_26 : decode cX7_hear 26 = .ok (.getfield 39, 3) := by decide +kernel
theorem dX7_hear_29 : decode cX7_hear 29 = .ok (.iload_n 2, 1) := by decide +kernel
theorem dX7_hear_30 : decode cX7_hear 30 = .ok (.iaload, 1) := by decide +kernel
theorem dX7_hear_31 : decode cX7_hear 31 = .ok (.iadd, 1) := by decide +kernel
theorem dX7_hear_32 : decode cX7_hear 32 = .ok (.istore_n 3, 1) := by decide +kernel
theorem dX7_hear_33 : decode cX7_hear 33 = .ok (.aload_n 0, 1) := by decide +kernel
theorem dX7_hear_34 : decode cX7_hear 34 = .ok (.getfield 55, 3) := by decide +kernel
theorem dX7_hear_37 : decode cX7_hear 37 = .ok (.iload_n 3, 1) := by decide +kernel
theorem dX7_hear_38 : decode cX7_hear 38 = .ok (.iaload, 1) := by decide +kernel
theorem dX7_hear_39 : decode cX7_hear 39 = .ok (.iconst 1, 1) := by decide +kernel
theorem dX7_hear_40 : decode cX7_hear 40 = .ok (.isub, 1) := by decide +kernel
theorem dX7_hear_41 : decode cX7_hear 41 = .ok (.istore 4, 2) := by decide +kernel
theorem dX7_hear_43 : decode cX7_hear 43 = .ok (.iload 4, 2) := by decide +kernel
theorem dX7_hear_45 : decode cX7_hear 45 = .ok (.iload_n 2, 1) := by decide +kernel
theorem dX7_hear_46 : decode cX7_hear 46 = .ok (.if_icmp .eq 42, 3) := by decide +kernel
theorem dX7_hear_49 : decode cX7_hear 49 = .ok (.iconst 0, 1) := by decide +kernel
theorem dX7_hear_50 : decode cX7_hear 50 = .ok (.istore 5, 2) := by decide +kernel
theorem dX7_hear_52 : decode cX7_hear 52 = .ok (.iload 5, 2) := by decide +kernel
theorem dX7_hear_54 : decode cX7_hear 54 = .ok (.iconst 5, 1) := by decide +kernel
theorem dX7_hear_55 : decode cX7_hear 55 = .ok (.if_icmp .ge 33, 3) := by decide +kernel
theorem dX7_hear_58 : decode cX7_hear 58 = .ok (.aload_n 0, 1) := by decide +kernel
theorem dX7_hear_59 : decode cX7_hear 59 = .ok (.getfield 58, 3) := by decide +kernel
theorem dX7_hear_62 : decode cX7_hear 62 = .ok (.iconst 5, 1) := by decide +kernel
theorem dX7_hear_63 : decode cX7_hear 63 = .ok (.iload_n 3, 1) := by decide +kernel
theorem dX7_hear_64 : decode cX7_hear 64 = .ok (.imul, 1) := by decide +kernel
theorem dX7_hear_65 : decode cX7_hear 65 = .ok (.iload 5, 2) := by decide +kernel
theorem dX7_hear_67 : decode cX7_hear 67 = .ok (.iadd, 1) := by decide +kernel
theorem dX7_hear_68 : decode cX7_hear 68 = .ok (.iconst 0, 1) := by decide +kernel
theorem dX7_hear_69 : decode cX7_hear 69 = .ok (.iastore, 1) := by decide +kernel
theorem dX7_hear_70 : decode cX7_hear 70 = .ok (.aload_n 0, 1) := by decide +kernel
theorem dX7_hear_71 : decode cX7_hear 71 = .ok (.getfield 61, 3) := by decide +kernel
theorem dX7_hear_74 : decode cX7_hear 74 = .ok (.iconst 5, 1) := by decide +kernel
theorem dX7_hear_75 : decode cX7_hear 75 = .ok (.iload_n 3, 1) := by decide +kernel
theorem dX7_hear_76 : decode cX7_hear 76 = .ok (.imul, 1) := by decide +kernel
theorem dX7_hear_77 : decode cX7_hear 77 = .ok (.iload 5, 2) := by decide +kernel
theorem dX7_hear_79 : decode cX7_hear 79 = .ok (.iadd, 1) := by decide +kernel
theorem dX7_hear_80 : decode cX7_hear 80 = .ok (.iconst 0, 1) := by decide +kernel
theorem dX7_hear_81 : decode cX7_hear 81 = .ok (.bastore, 1) := by decide +kernel
theorem dX7_hear_82 : decode cX7_hear 82 = .ok (.iinc 5 1, 3) := by decide +kernel
theorem dX7_hear_85 : decode cX7_hear 85 = .ok (.goto (-33), 3) := by decide +kernel
theorem dX7_hear_88 : decode cX7_hear 88 = .ok (.aload_n 0, 1) := by decide +kernel
theorem dX7_hear_89 : decode cX7_hear 89 = .ok (.getfield 55, 3) := by decide +kernel
theorem dX7_hear_92 : decode cX7_hear 92 = .ok (.iload_n 3, 1) := by decide +kernel
theorem dX7_hear_93 : decode cX7_hear 93 = .ok (.iload_n 2, 1) := by decide +kernel
theorem dX7_hear_94 : decode cX7_hear 94 = .ok (.iconst 1, 1) := by decide +kernel
theorem dX7_hear_95 : decode cX7_hear 95 = .ok (.iadd, 1) := by decide +kernel
theorem dX7_hear_96 : decode cX7_hear 96 = .ok (.iastore, 1) := by decide +kernel
theorem dX7_hear_97 : decode cX7_hear 97 = .ok (.aload_n 0, 1) := by decide +kernel
theorem dX7_hear_98 : decode cX7_hear 98 = .ok (.iload 4, 2) := by decide +kernel
theorem dX7_hear_100 : decode cX7_hear 100 = .ok (.invokevirtual 93, 3) := by decide +kernel
theorem dX7_hear_103 : decode cX7_hear 103 = .ok (.ireturn, 1) := by decide +kernel
theorem dX7_isMark_0 : decode cX7_isMark 0 = .ok (.iload_n 1, 1) := by decide +kernel
theorem dX7_isMark_1 : decode cX7_isMark 1 = .ok (.iconst 0, 1) := by decide +kernel
theorem dX7_isMark_2 : decode cX7_isMark 2 = .ok (.iconst 4, 1) := by decide +kernel
theorem dX7_isMark_3 : decode cX7_isMark 3 = .ok (.invokestatic 77, 3) := by decide +kernel
theorem dX7_isMark_6 : decode cX7_isMark 6 = .ok (.ifCond .eq 22, 3) := by decide +kernel
theorem dX7_isMark_9 : decode cX7_isMark 9 = .ok (.iload_n 2, 1) := by decide +kernel
theorem dX7_isMark_10 : decode cX7_isMark 10 = .ok (.invokestatic 141, 3) := by decide +kernel
theorem dX7_isMark_13 : decode cX7_isMark 13 = .ok (.ifCond .eq 15, 3) := by decide +kernel
theorem dX7_isMark_16 : decode cX7_isMark 16 = .ok (.aload_n 0, 1) := by decide +kernel
theorem dX7_isMark_17 : decode cX7_isMark 17 = .ok (.iload_n 3, 1) := by decide +kernel
theorem dX7_isMark_18 : decode cX7_isMark 18 = .ok (.invokevirtual 96, 3) := by decide +kernel
theorem dX7_isMark_21 : decode cX7_isMark 21 = .ok (.ifCond .eq 7, 3) := by decide +kernel
theorem dX7_isMark_24 : decode cX7_isMark 24 = .ok (.iconst 1, 1) := by decide +kernel
theorem dX7_isMark_25 : decode cX7_isMark 25 = .ok (.goto 4, 3) := by decide +kernel
theorem dX7_isMark_28 : decode cX7_isMark 28 = .ok (.iconst 0, 1) := by decide +kernel
theorem dX7_isMark_29 : decode cX7_isMark 29 = .ok (.ireturn, 1) := by decide +kernel
theorem dX7_mark_0 : decode cX7_mark 0 = .ok (.aload_n 0, 1) := by decide +kernel
theorem dX7_mark_1 : decode cX7_mark 1 = .ok (.iload_n 1, 1) := by decide +kernel
theorem dX7_mark_2 : decode cX7_mark 2 = .ok (.iload_n 2, 1) := by decide +kernel
theorem dX7_mark_3 : decode cX7_mark 3 = .ok (.iload_n 3, 1) := by decide +kernel
theorem dX7_mark_4 : decode cX7_mark 4 = .ok (.invokevirtual 144, 3) := by decide +kernel
theorem dX7_mark_7 : decode cX7_mark 7 = .ok (.ifCond .ne 9, 3) := by decide +kernel
theorem dX7_mark_10 : decode cX7_mark 10 = .ok (.aload_n 0, 1) := by decide +kernel
theorem dX7_mark_11 : decode cX7_mark 11 = .ok (.iconst 1, 1) := by decide +kernel
theorem dX7_mark_12 : decode cX7_mark 12 = .ok (.invokevirtual 81, 3) := by decide +kernel
theorem dX7_mark_15 : decode cX7_mark 15 = .ok (.ireturn, 1) := by decide +kernel
theorem dX7_mark_16 : decode cX7_mark 16 = .ok (.iload 4, 2) := by decide +kernel
theorem dX7_mark_18 : decode cX7_mark 18 = .ok (.iconst 0, 1) := by decide +kernel
theorem dX7_mark_19 : decode cX7_mark 19 = .ok (.bipush 20, 2) := by decide +kernel
theorem dX7_mark_21 : decode cX7_mark 21 = .ok (.invokestatic 77, 3) := by decide +kernel
theorem dX7_mark_24 : decode cX7_mark 24 = .ok (.ifCond .ne 9, 3) := by decide +kernel
theorem dX7_mark_27 : decode cX7_mark 27 = .ok (.aload_n 0, 1) := by decide +kernel
theorem dX7_mark_28 : decode cX7_mark 28 = .ok (.iconst 2, 1) := by decide +kernel
theorem dX7_mark_29 : decode cX7_mark 29 = .ok (.invokevirtual 81, 3) := by decide +kernel
theorem dX7_mark_32 : decode cX7_mark 32 = .ok (.ireturn, 1) := by decide +kernel
theorem dX7_mark_33 : decode cX7_mark 33 = .ok (.aload_n 0, 1) := by decide +kernel
theorem dX7_mark_34 : decode cX7_mark 34 = .ok (.getfield 55, 3) := by decide +kernel
theorem dX7_mark_37 : decode cX7_mark 37 = .ok (.bipush 6, 2) := by decide +kernel
theorem dX7_mark_39 : decode cX7_mark 39 = .ok (.iload_n 2, 1) := by decide +kernel
theorem dX7_mark_40 : decode cX7_mark 40 = .ok (.imul, 1) := by decide +kernel
theorem dX7_mark_41 : decode cX7_mark 41 = .ok (.iload_n 3, 1) := by decide +kernel
theorem dX7_mark_42 : decode cX7_mark 42 = .ok (.iadd, 1) := by decide +kernel
theorem dX7_mark_43 : decode cX7_mark 43 = .ok (.iaload, 1) := by decide +kernel
theorem dX7_mark_44 : decode cX7_mark 44 = .ok (.ifCond .ne 9, 3) := by decide +kernel
theorem dX7_mark_47 : decode cX7_mark 47 = .ok (.aload_n 0, 1) := by decide +kernel
theorem dX7_mark_48 : decode cX7_mark 48 = .ok (.iconst 3, 1) := by decide +kernel
theorem dX7_mark_49 : decode cX7_mark 49 = .ok (.invokevirtual 81, 3) := by decide +kernel
theorem dX7_mark_52 : decode cX7_mark 52 = .ok (.ireturn, 1) := by decide +kernel
theorem dX7_mark_53 : decode cX7_mark 53 = .ok (.iconst 5, 1) := by decide +kernel
theorem dX7_mark_54 : decode cX7_mark 54 = .ok (.bipush 6, 2) := by decide +kernel
theorem dX7_mark_56 : decode cX7_mark 56 = .ok (.iload_n 2, 1) := by decide +kernel
theorem dX7_mark_57 : decode cX7_mark 57 = .ok (.imul, 1) := by decide +kernel
theorem dX7_mark_58 : decode cX7_mark 58 = .ok (.iload_n 3, 1) := by decide +kernel
theorem dX7_mark_59 : decode cX7_mark 59 = .ok (.iadd, 1) := by decide +kernel
theorem dX7_mark_60 : decode cX7_mark 60 = .ok (.imul, 1) := by decide +kernel
theorem dX7_mark_61 : decode cX7_mark 61 = .ok (.iload_n 1, 1) := by decide +kernel
theorem dX7_mark_62 : decode cX7_mark 62 = .ok (.iadd, 1) := by decide +kernel
theorem dX7_mark_63 : decode cX7_mark 63 = .ok (.istore 5, 2) := by decide +kernel
theorem dX7_mark_65 : decode cX7_mark 65 = .ok (.aload_n 0, 1) := by decide +kernel
theorem dX7_mark_66 : decode cX7_mark 66 = .ok (.getfield 58, 3) := by decide +kernel
theorem dX7_mark_69 : decode cX7_mark 69 = .ok (.iload 5, 2) := by decide +kernel
theorem dX7_mark_71 : decode cX7_mark 71 = .ok (.iaload, 1) := by decide +kernel
theorem dX7_mark_72 : decode cX7_mark 72 = .ok (.iconst 1, 1) := by decide +kernel
theorem dX7_mark_73 : decode cX7_mark 73 = .ok (.isub, 1) := by decide +kernel
theorem dX7_mark_74 : decode cX7_mark 74 = .ok (.istore 6, 2) := by decide +kernel
theorem dX7_mark_76 : decode cX7_mark 76 = .ok (.aload_n 0, 1) := by decide +kernel
theorem dX7_mark_77 : decode cX7_mark 77 = .ok (.getfield 58, 3) := by decide +kernel
theorem dX7_mark_80 : decode cX7_mark 80 = .ok (.iload 5, 2) := by decide +kernel
theorem dX7_mark_82 : decode cX7_mark 82 = .ok (.iload 4, 2) := by decide +kernel
theorem dX7_mark_84 : decode cX7_mark 84 = .ok (.iconst 1, 1) := by decide +kernel
theorem dX7_mark_85 : decode cX7_mark 85 = .ok (.iadd, 1) := by decide +kernel
theorem dX7_mark_86 : decode cX7_mark 86 = .ok (.iastore, 1) := by decide +kernel
theorem dX7_mark_87 : decode cX7_mark 87 = .ok (.aload_n 0, 1) := by decide +kernel
theorem dX7_mark_88 : decode cX7_mark 88 = .ok (.getfield 61, 3) := by decide +kernel
theorem dX7_mark_91 : decode cX7_mark 91 = .ok (.iload 5, 2) := by decide +kernel
theorem dX7_mark_93 : decode cX7_mark 93 = .ok (.iconst 0, 1) := by decide +kernel
theorem dX7_mark_94 : decode cX7_mark 94 = .ok (.bastore, 1) := by decide +kernel
theorem dX7_mark_95 : decode cX7_mark 95 = .ok (.aload_n 0, 1) := by decide +kernel
theorem dX7_mark_96 : decode cX7_mark 96 = .ok (.iload 6, 2) := by decide +kernel
theorem dX7_mark_98 : decode cX7_mark 98 = .ok (.invokevirtual 93, 3) := by decide +kernel
theorem dX7_mark_101 : decode cX7_mark 101 = .ok (.ireturn, 1) := by decide +kernel
theorem dX7_affirm_0 : decode cX7_affirm 0 = .ok (.aload_n 0, 1) := by decide +kernel
theorem dX7_affirm_1 : decode cX7_affirm 1 = .ok (.iload_n 1, 1) := by decide +kernel
theorem dX7_affirm_2 : decode cX7_affirm 2 = .ok (.iload_n 2, 1) := by decide +kernel
theorem dX7_affirm_3 : decode cX7_affirm 3 = .ok (.iload_n 3, 1) := by decide +kernel
theorem dX7_affirm_4 : decode cX7_affirm 4 = .ok (.invokevirtual 144, 3) := by decide +kernel
theorem dX7_affirm_7 : decode cX7_affirm 7 = .ok (.ifCond .ne 9, 3) := by decide +kernel
theorem dX7_affirm_10 : decode cX7_affirm 10 = .ok (.aload_n 0, 1) := by decide +kernel
theorem dX7_affirm_11 : decode cX7_affirm 11 = .ok (.iconst 1, 1) := by decide +kernel
theorem dX7_affirm_12 : decode cX7_affirm 12 = .ok (.invokevirtual 81, 3) := by decide +kernel
theorem dX7_affirm_15 : decode cX7_affirm 15 = .ok (.ireturn, 1) := by decide +kernel
theorem dX7_affirm_16 : decode cX7_affirm 16 = .ok (.iconst 5, 1) := by decide +kernel
theorem dX7_affirm_17 : decode cX7_affirm 17 = .ok (.bipush 6, 2) := by decide +kernel
theorem dX7_affirm_19 : decode cX7_affirm 19 = .ok (.iload_n 2, 1) := by decide +kernel
theorem dX7_affirm_20 : decode cX7_affirm 20 = .ok (.imul, 1) := by decide +kernel
theorem dX7_affirm_21 : decode cX7_affirm 21 = .ok (.iload_n 3, 1) := by decide +kernel
theorem dX7_affirm_22 : decode cX7_affirm 22 = .ok (.iadd, 1) := by decide +kernel
theorem dX7_affirm_23 : decode cX7_affirm 23 = .ok (.imul, 1) := by decide +kernel
theorem dX7_affirm_24 : decode cX7_affirm 24 = .ok (.iload_n 1, 1) := by decide +kernel
theorem dX7_affirm_25 : decode cX7_affirm 25 = .ok (.iadd, 1) := by decide +kernel
theorem dX7_affirm_26 : decode cX7_affirm 26 = .ok (.istore 4, 2) := by decide +kernel
theorem dX7_affirm_28 : decode cX7_affirm 28 = .ok (.aload_n 0, 1) := by decide +kernel
theorem dX7_affirm_29 : decode cX7_affirm 29 = .ok (.getfield 61, 3) := by decide +kernel
theorem dX7_affirm_32 : decode cX7_affirm 32 = .ok (.iload 4, 2) := by decide +kernel
theorem dX7_affirm_34 : decode cX7_affirm 34 = .ok (.baload, 1) := by decide +kernel
theorem dX7_affirm_35 : decode cX7_affirm 35 = .ok (.ifCond .ne 9, 3) := by decide +kernel
theorem dX7_affirm_38 : decode cX7_affirm 38 = .ok (.aload_n 0, 1) := by decide +kernel
theorem dX7_affirm_39 : decode cX7_affirm 39 = .ok (.iconst 2, 1) := by decide +kernel
theorem dX7_affirm_40 : decode cX7_affirm 40 = .ok (.invokevirtual 81, 3) := by decide +kernel
theorem dX7_affirm_43 : decode cX7_affirm 43 = .ok (.ireturn, 1) := by decide +kernel
theorem dX7_affirm_44 : decode cX7_affirm 44 = .ok (.aload_n 0, 1) := by decide +kernel
theorem dX7_affirm_45 : decode cX7_affirm 45 = .ok (.getfield 61, 3) := by decide +kernel
theorem dX7_affirm_48 : decode cX7_affirm 48 = .ok (.iload 4, 2) := by decide +kernel
theorem dX7_affirm_50 : decode cX7_affirm 50 = .ok (.iconst 0, 1) := by decide +kernel
theorem dX7_affirm_51 : decode cX7_affirm 51 = .ok (.bastore, 1) := by decide +kernel
theorem dX7_affirm_52 : decode cX7_affirm 52 = .ok (.aload_n 0, 1) := by decide +kernel
theorem dX7_affirm_53 : decode cX7_affirm 53 = .ok (.aload_n 0, 1) := by decide +kernel
theorem dX7_affirm_54 : decode cX7_affirm 54 = .ok (.getfield 58, 3) := by decide +kernel
theorem dX7_affirm_57 : decode cX7_affirm 57 = .ok (.iload 4, 2) := by decide +kernel
theorem dX7_affirm_59 : decode cX7_affirm 59 = .ok (.iaload, 1) := by decide +kernel
theorem dX7_affirm_60 : decode cX7_affirm 60 = .ok (.iconst 1, 1) := by decide +kernel
theorem dX7_affirm_61 : decode cX7_affirm 61 = .ok (.isub, 1) := by decide +kernel
theorem dX7_affirm_62 : decode cX7_affirm 62 = .ok (.invokevirtual 93, 3) := by decide +kernel
theorem dX7_affirm_65 : decode cX7_affirm 65 = .ok (.ireturn, 1) := by decide +kernel
theorem dX7_asked_0 : decode cX7_asked 0 = .ok (.iconst 0, 1) := by decide +kernel
theorem dX7_asked_1 : decode cX7_asked 1 = .ok (.istore_n 1, 1) := by decide +kernel
theorem dX7_asked_2 : decode cX7_asked 2 = .ok (.iconst 0, 1) := by decide +kernel
theorem dX7_asked_3 : decode cX7_asked 3 = .ok (.istore_n 2, 1) := by decide +kernel
theorem dX7_asked_4 : decode cX7_asked 4 = .ok (.iload_n 2, 1) := by decide +kernel
theorem dX7_asked_5 : decode cX7_asked 5 = .ok (.bipush 120, 2) := by decide +kernel
theorem dX7_asked_7 : decode cX7_asked 7 = .ok (.if_icmp .ge 26, 3) := by decide +kernel
theorem dX7_asked_10 : decode cX7_asked 10 = .ok (.iload_n 1, 1) := by decide +kernel
theorem dX7_asked_11 : decode cX7_asked 11 = .ok (.aload_n 0, 1) := by decide +kernel
theorem dX7_asked_12 : decode cX7_asked 12 = .ok (.getfield 61, 3) := by decide +kernel
theorem dX7_asked_15 : decode cX7_asked 15 = .ok (.iload_n 2, 1) := by decide +kernel
theorem dX7_asked_16 : decode cX7_asked 16 = .ok (.baload, 1) := by decide +kernel
theorem dX7_asked_17 : decode cX7_asked 17 = .ok (.ifCond .eq 7, 3) := by decide +kernel
theorem dX7_asked_20 : decode cX7_asked 20 = .ok (.iconst 1, 1) := by decide +kernel
theorem dX7_asked_21 : decode cX7_asked 21 = .ok (.goto 4, 3) := by decide +kernel
theorem dX7_asked_24 : decode cX7_asked 24 = .ok (.iconst 0, 1) := by decide +kernel
theorem dX7_asked_25 : decode cX7_asked 25 = .ok (.iadd, 1) := by decide +kernel
theorem dX7_asked_26 : decode cX7_asked 26 = .ok (.istore_n 1, 1) := by decide +kernel
theorem dX7_asked_27 : decode cX7_asked 27 = .ok (.iinc 2 1, 3) := by decide +kernel
theorem dX7_asked_30 : decode cX7_asked 30 = .ok (.goto (-26), 3) := by decide +kernel
theorem dX7_asked_33 : decode cX7_asked 33 = .ok (.aload_n 0, 1) := by decide +kernel
theorem dX7_asked_34 : decode cX7_asked 34 = .ok (.iload_n 1, 1) := by decide +kernel
theorem dX7_asked_35 : decode cX7_asked 35 = .ok (.invokevirtual 93, 3) := by decide +kernel
theorem dX7_asked_38 : decode cX7_asked 38 = .ok (.ireturn, 1) := by decide +kernel
theorem dX7_counted_0 : decode cX7_counted 0 = .ok (.iconst 5, 1) := by decide +kernel
theorem dX7_counted_1 : decode cX7_counted 1 = .ok (.bipush 6, 2) := by decide +kernel
theorem dX7_counted_3 : decode cX7_counted 3 = .ok (.iload_n 1, 1) := by decide +kernel
theorem dX7_counted_4 : decode cX7_counted 4 = .ok (.imul, 1) := by decide +kernel
theorem dX7_counted_5 : decode cX7_counted 5 = .ok (.iload_n 2, 1) := by decide +kernel
theorem dX7_counted_6 : decode cX7_counted 6 = .ok (.iadd, 1) := by decide +kernel
theorem dX7_counted_7 : decode cX7_counted 7 = .ok (.imul, 1) := by decide +kernel
theorem dX7_counted_8 : decode cX7_counted 8 = .ok (.iload_n 3, 1) := by decide +kernel
theorem dX7_counted_9 : decode cX7_counted 9 = .ok (.iadd, 1) := by decide +kernel
theorem dX7_counted_10 : decode cX7_counted 10 = .ok (.istore 4, 2) := by decide +kernel
theorem dX7_counted_12 : decode cX7_counted 12 = .ok (.aload_n 0, 1) := by decide +kernel
theorem dX7_counted_13 : decode cX7_counted 13 = .ok (.getfield 61, 3) := by decide +kernel
theorem dX7_counted_16 : decode cX7_counted 16 = .ok (.iload 4, 2) := by decide +kernel
theorem dX7_counted_18 : decode cX7_counted 18 = .ok (.baload, 1) := by decide +kernel
theorem dX7_counted_19 : decode cX7_counted 19 = .ok (.ifCond .eq 7, 3) := by decide +kernel
theorem dX7_counted_22 : decode cX7_counted 22 = .ok (.iconst (-1), 1) := by decide +kernel
theorem dX7_counted_23 : decode cX7_counted 23 = .ok (.goto 12, 3) := by decide +kernel
theorem dX7_counted_26 : decode cX7_counted 26 = .ok (.aload_n 0, 1) := by decide +kernel
theorem dX7_counted_27 : decode cX7_counted 27 = .ok (.getfield 58, 3) := by decide +kernel
theorem dX7_counted_30 : decode cX7_counted 30 = .ok (.iload 4, 2) := by decide +kernel
theorem dX7_counted_32 : decode cX7_counted 32 = .ok (.iaload, 1) := by decide +kernel
theorem dX7_counted_33 : decode cX7_counted 33 = .ok (.iconst 1, 1) := by decide +kernel
theorem dX7_counted_34 : decode cX7_counted 34 = .ok (.isub, 1) := by decide +kernel
theorem dX7_counted_35 : decode cX7_counted 35 = .ok (.ireturn, 1) := by decide +kernel
theorem dX7_fallen_0 : decode cX7_fallen 0 = .ok (.iload_n 3, 1) := by decide +kernel
theorem dX7_fallen_1 : decode cX7_fallen 1 = .ok (.istore 4, 2) := by decide +kernel
theorem dX7_fallen_3 : decode cX7_fallen 3 = .ok (.bipush 20, 2) := by decide +kernel
theorem dX7_fallen_5 : decode cX7_fallen 5 = .ok (.istore 5, 2) := by decide +kernel
theorem dX7_fallen_7 : decode cX7_fallen 7 = .ok (.iload 5, 2) := by decide +kernel
theorem dX7_fallen_9 : decode cX7_fallen 9 = .ok (.ifCond .lt 51, 3) := by decide +kernel
theorem dX7_fallen_12 : decode cX7_fallen 12 = .ok (.iconst 0, 1) := by decide +kernel
theorem dX7_fallen_13 : decode cX7_fallen 13 = .ok (.istore 6, 2) := by decide +kernel
theorem dX7_fallen_15 : decode cX7_fallen 15 = .ok (.iload 6, 2) := by decide +kernel
theorem dX7_fallen_17 : decode cX7_fallen 17 = .ok (.iconst 5, 1) := by decide +kernel
theorem dX7_fallen_18 : decode cX7_fallen 18 = .ok (.if_icmp .ge 36, 3) := by decide +kernel
theorem dX7_fallen_21 : decode cX7_fallen 21 = .ok (.aload_n 0, 1) := by decide +kernel
theorem dX7_fallen_22 : decode cX7_fallen 22 = .ok (.iload_n 1, 1) := by decide +kernel
theorem dX7_fallen_23 : decode cX7_fallen 23 = .ok (.iload_n 2, 1) := by decide +kernel
theorem dX7_fallen_24 : decode cX7_fallen 24 = .ok (.iload 6, 2) := by decide +kernel
theorem dX7_fallen_26 : decode cX7_fallen 26 = .ok (.invokevirtual 147, 3) := by decide +kernel
theorem dX7_fallen_29 : decode cX7_fallen 29 = .ok (.iload 5, 2) := by decide +kernel
theorem dX7_fallen_31 : decode cX7_fallen 31 = .ok (.if_icmp .eq 6, 3) := by decide +kernel
theorem dX7_fallen_34 : decode cX7_fallen 34 = .ok (.goto 14, 3) := by decide +kernel
theorem dX7_fallen_37 : decode cX7_fallen 37 = .ok (.iload 4, 2) := by decide +kernel
theorem dX7_fallen_39 : decode cX7_fallen 39 = .ok (.ifCond .ne 6, 3) := by decide +kernel
theorem dX7_fallen_42 : decode cX7_fallen 42 = .ok (.iload 5, 2) := by decide +kernel
theorem dX7_fallen_44 : decode cX7_fallen 44 = .ok (.ireturn, 1) := by decide +kernel
theorem dX7_fallen_45 : decode cX7_fallen 45 = .ok (.iinc 4 (-1), 3) := by decide +kernel
theorem dX7_fallen_48 : decode cX7_fallen 48 = .ok (.iinc 6 1, 3) := by decide +kernel
theorem dX7_fallen_51 : decode cX7_fallen 51 = .ok (.goto (-36), 3) := by decide +kernel
theorem dX7_fallen_54 : decode cX7_fallen 54 = .ok (.iinc 5 (-1), 3) := by decide +kernel
theorem dX7_fallen_57 : decode cX7_fallen 57 = .ok (.goto (-50), 3) := by decide +kernel
theorem dX7_fallen_60 : decode cX7_fallen 60 = .ok (.iconst (-1), 1) := by decide +kernel
theorem dX7_fallen_61 : decode cX7_fallen 61 = .ok (.ireturn, 1) := by decide +kernel
theorem dX7_pointsOf_0 : decode cX7_pointsOf 0 = .ok (.iconst 0, 1) := by decide +kernel
theorem dX7_pointsOf_1 : decode cX7_pointsOf 1 = .ok (.istore_n 3, 1) := by decide +kernel
theorem dX7_pointsOf_2 : decode cX7_pointsOf 2 = .ok (.iconst 0, 1) := by decide +kernel
theorem dX7_pointsOf_3 : decode cX7_pointsOf 3 = .ok (.istore 4, 2) := by decide +kernel
theorem dX7_pointsOf_5 : decode cX7_pointsOf 5 = .ok (.iconst 0, 1) := by decide +kernel
theorem dX7_pointsOf_6 : decode cX7_pointsOf 6 = .ok (.istore 5, 2) := by decide +kernel
theorem dX7_pointsOf_8 : decode cX7_pointsOf 8 = .ok (.iload 5, 2) := by decide +kernel
theorem dX7_pointsOf_10 : decode cX7_pointsOf 10 = .ok (.iconst 5, 1) := by decide +kernel
theorem dX7_pointsOf_11 : decode cX7_pointsOf 11 = .ok (.if_icmp .ge 50, 3) := by decide +kernel
theorem dX7_pointsOf_14 : decode cX7_pointsOf 14 = .ok (.aload_n 0, 1) := by decide +kernel
theorem dX7_pointsOf_15 : decode cX7_pointsOf 15 = .ok (.iload_n 1, 1) := by decide +kernel
theorem dX7_pointsOf_16 : decode cX7_pointsOf 16 = .ok (.iload_n 2, 1) := by decide +kernel
theorem dX7_pointsOf_17 : decode cX7_pointsOf 17 = .ok (.iload 5, 2) := by decide +kernel
theorem dX7_pointsOf_19 : decode cX7_pointsOf 19 = .ok (.invokevirtual 150, 3) := by decide +kernel
theorem dX7_pointsOf_22 : decode cX7_pointsOf 22 = .ok (.istore 6, 2) := by decide +kernel
theorem dX7_pointsOf_24 : decode cX7_pointsOf 24 = .ok (.iload_n 3, 1) := by decide +kernel
theorem dX7_pointsOf_25 : decode cX7_pointsOf 25 = .ok (.iload 6, 2) := by decide +kernel
theorem dX7_pointsOf_27 : decode cX7_pointsOf 27 = .ok (.iconst (-1), 1) := by decide +kernel
theorem dX7_pointsOf_28 : decode cX7_pointsOf 28 = .ok (.if_icmp .ne 7, 3) := by decide +kernel
theorem dX7_pointsOf_31 : decode cX7_pointsOf 31 = .ok (.iconst 0, 1) := by decide +kernel
theorem dX7_pointsOf_32 : decode cX7_pointsOf 32 = .ok (.goto 4, 3) := by decide +kernel
theorem dX7_pointsOf_35 : decode cX7_pointsOf 35 = .ok (.iconst 1, 1) := by decide +kernel
theorem dX7_pointsOf_36 : decode cX7_pointsOf 36 = .ok (.iadd, 1) := by decide +kernel
theorem dX7_pointsOf_37 : decode cX7_pointsOf 37 = .ok (.istore_n 3, 1) := by decide +kernel
theorem dX7_pointsOf_38 : decode cX7_pointsOf 38 = .ok (.iload 4, 2) := by decide +kernel
theorem dX7_pointsOf_40 : decode cX7_pointsOf 40 = .ok (.iload 6, 2) := by decide +kernel
theorem dX7_pointsOf_42 : decode cX7_pointsOf 42 = .ok (.iconst (-1), 1) := by decide +kernel
theorem dX7_pointsOf_43 : decode cX7_pointsOf 43 = .ok (.if_icmp .ne 7, 3) := by decide +kernel
theorem dX7_pointsOf_46 : decode cX7_pointsOf 46 = .ok (.iconst 0, 1) := by decide +kernel
theorem dX7_pointsOf_47 : decode cX7_pointsOf 47 = .ok (.goto 5, 3) := by decide +kernel
theorem dX7_pointsOf_50 : decode cX7_pointsOf 50 = .ok (.iload 6, 2) := by decide +kernel
theorem dX7_pointsOf_52 : decode cX7_pointsOf 52 = .ok (.iadd, 1) := by decide +kernel
theorem dX7_pointsOf_53 : decode cX7_pointsOf 53 = .ok (.istore 4, 2) := by decide +kernel
theorem dX7_pointsOf_55 : decode cX7_pointsOf 55 = .ok (.iinc 5 1, 3) := by decide +kernel
theorem dX7_pointsOf_58 : decode cX7_pointsOf 58 = .ok (.goto (-50), 3) := by decide +kernel
theorem dX7_pointsOf_61 : decode cX7_pointsOf 61 = .ok (.iload_n 3, 1) := by decide +kernel
theorem dX7_pointsOf_62 : decode cX7_pointsOf 62 = .ok (.iconst 4, 1) := by decide +kernel
theorem dX7_pointsOf_63 : decode cX7_pointsOf 63 = .ok (.if_icmp .ge 8, 3) := by decide +kernel
theorem dX7_pointsOf_66 : decode cX7_pointsOf 66 = .ok (.iload 4, 2) := by decide +kernel
theorem dX7_pointsOf_68 : decode cX7_pointsOf 68 = .ok (.goto 23, 3) := by decide +kernel
theorem dX7_pointsOf_71 : decode cX7_pointsOf 71 = .ok (.iload 4, 2) := by decide +kernel
theorem dX7_pointsOf_73 : decode cX7_pointsOf 73 = .ok (.aload_n 0, 1) := by decide +kernel
theorem dX7_pointsOf_74 : decode cX7_pointsOf 74 = .ok (.iload_n 1, 1) := by decide +kernel
theorem dX7_pointsOf_75 : decode cX7_pointsOf 75 = .ok (.iload_n 2, 1) := by decide +kernel
theorem dX7_pointsOf_76 : decode cX7_pointsOf 76 = .ok (.iconst 0, 1) := by decide +kernel
theorem dX7_pointsOf_77 : decode cX7_pointsOf 77 = .ok (.invokevirtual 150, 3) := by decide +kernel
theorem dX7_pointsOf_80 : decode cX7_pointsOf 80 = .ok (.isub, 1) := by decide +kernel
theorem dX7_pointsOf_81 : decode cX7_pointsOf 81 = .ok (.aload_n 0, 1) := by decide +kernel
theorem dX7_pointsOf_82 : decode cX7_pointsOf 82 = .ok (.iload_n 1, 1) := by decide +kernel
theorem dX7_pointsOf_83 : decode cX7_pointsOf 83 = .ok (.iload_n 2, 1) := by decide +kernel
theorem dX7_pointsOf_84 : decode cX7_pointsOf 84 = .ok (.iload_n 3, 1) := by decide +kernel
theorem dX7_pointsOf_85 : decode cX7_pointsOf 85 = .ok (.iconst 1, 1) := by decide +kernel
theorem dX7_pointsOf_86 : decode cX7_pointsOf 86 = .ok (.isub, 1) := by decide +kernel
theorem dX7_pointsOf_87 : decode cX7_pointsOf 87 = .ok (.invokevirtual 150, 3) := by decide +kernel
theorem dX7_pointsOf_90 : decode cX7_pointsOf 90 = .ok (.isub, 1) := by decide +kernel
theorem dX7_pointsOf_91 : decode cX7_pointsOf 91 = .ok (.ireturn, 1) := by decide +kernel
theorem dX7_points_0 : decode cX7_points 0 = .ok (.iload_n 1, 1) := by decide +kernel
theorem dX7_points_1 : decode cX7_points 1 = .ok (.invokestatic 141, 3) := by decide +kernel
theorem dX7_points_4 : decode cX7_points 4 = .ok (.ifCond .eq 24, 3) := by decide +kernel
theorem dX7_points_7 : decode cX7_points 7 = .ok (.aload_n 0, 1) := by decide +kernel
theorem dX7_points_8 : decode cX7_points 8 = .ok (.iload_n 2, 1) := by decide +kernel
theorem dX7_points_9 : decode cX7_points 9 = .ok (.invokevirtual 96, 3) := by decide +kernel
theorem dX7_points_12 : decode cX7_points 12 = .ok (.ifCond .eq 16, 3) := by decide +kernel
theorem dX7_points_15 : decode cX7_points 15 = .ok (.aload_n 0, 1) := by decide +kernel
theorem dX7_points_16 : decode cX7_points 16 = .ok (.aload_n 0, 1) := by decide +kernel
theorem dX7_points_17 : decode cX7_points 17 = .ok (.iload_n 1, 1) := by decide +kernel
theorem dX7_points_18 : decode cX7_points 18 = .ok (.iload_n 2, 1) := by decide +kernel
theorem dX7_points_19 : decode cX7_points 19 = .ok (.invokevirtual 153, 3) := by decide +kernel
theorem dX7_points_22 : decode cX7_points 22 = .ok (.invokevirtual 93, 3) := by decide +kernel
theorem dX7_points_25 : decode cX7_points 25 = .ok (.goto 8, 3) := by decide +kernel
theorem dX7_points_28 : decode cX7_points 28 = .ok (.aload_n 0, 1) := by decide +kernel
theorem dX7_points_29 : decode cX7_points 29 = .ok (.iconst 1, 1) := by decide +kernel
theorem dX7_points_30 : decode cX7_points 30 = .ok (.invokevirtual 81, 3) := by decide +kernel
theorem dX7_points_33 : decode cX7_points 33 = .ok (.ireturn, 1) := by decide +kernel
theorem dX7_openOf_0 : decode cX7_openOf 0 = .ok (.aload_n 0, 1) := by decide +kernel
theorem dX7_openOf_1 : decode cX7_openOf 1 = .ok (.iconst 0, 1) := by decide +kernel
theorem dX7_openOf_2 : decode cX7_openOf 2 = .ok (.iload_n 1, 1) := by decide +kernel
theorem dX7_openOf_3 : decode cX7_openOf 3 = .ok (.invokevirtual 153, 3) := by decide +kernel
theorem dX7_openOf_6 : decode cX7_openOf 6 = .ok (.aload_n 0, 1) := by decide +kernel
theorem dX7_openOf_7 : decode cX7_openOf 7 = .ok (.iconst 1, 1) := by decide +kernel
theorem dX7_openOf_8 : decode cX7_openOf 8 = .ok (.iload_n 1, 1) := by decide +kernel
theorem dX7_openOf_9 : decode cX7_openOf 9 = .ok (.invokevirtual 153, 3) := by decide +kernel
theorem dX7_openOf_12 : decode cX7_openOf 12 = .ok (.iadd, 1) := by decide +kernel
theorem dX7_openOf_13 : decode cX7_openOf 13 = .ok (.aload_n 0, 1) := by decide +kernel
theorem dX7_openOf_14 : decode cX7_openOf 14 = .ok (.iconst 2, 1) := by decide +kernel
theorem dX7_openOf_15 : decode cX7_openOf 15 = .ok (.iload_n 1, 1) := by decide +kernel
theorem dX7_openOf_16 : decode cX7_openOf 16 = .ok (.invokevirtual 153, 3) := by decide +kernel
theorem dX7_openOf_19 : decode cX7_openOf 19 = .ok (.iadd, 1) := by decide +kernel
theorem dX7_openOf_20 : decode cX7_openOf 20 = .ok (.ireturn, 1) := by decide +kernel
theorem dX7_isAhead_0 : decode cX7_isAhead 0 = .ok (.aload_n 0, 1) := by decide +kernel
theorem dX7_isAhead_1 : decode cX7_isAhead 1 = .ok (.iload_n 1, 1) := by decide +kernel
theorem dX7_isAhead_2 : decode cX7_isAhead 2 = .ok (.invokevirtual 156, 3) := by decide +kernel
theorem dX7_isAhead_5 : decode cX7_isAhead 5 = .ok (.aload_n 0, 1) := by decide +kernel
theorem dX7_isAhead_6 : decode cX7_isAhead 6 = .ok (.iload_n 2, 1) := by decide +kernel
theorem dX7_isAhead_7 : decode cX7_isAhead 7 = .ok (.invokevirtual 156, 3) := by decide +kernel
theorem dX7_isAhead_10 : decode cX7_isAhead 10 = .ok (.if_icmp .eq 22, 3) := by decide +kernel
theorem dX7_isAhead_13 : decode cX7_isAhead 13 = .ok (.aload_n 0, 1) := by decide +kernel
theorem dX7_isAhead_14 : decode cX7_isAhead 14 = .ok (.iload_n 1, 1) := by decide +kernel
theorem dX7_isAhead_15 : decode cX7_isAhead 15 = .ok (.invokevirtual 156, 3) := by decide +kernel
theorem dX7_isAhead_18 : decode cX7_isAhead 18 = .ok (.aload_n 0, 1) := by decide +kernel
theorem dX7_isAhead_19 : decode cX7_isAhead 19 = .ok (.iload_n 2, 1) := by decide +kernel
theorem dX7_isAhead_20 : decode cX7_isAhead 20 = .ok (.invokevirtual 156, 3) := by decide +kernel
theorem dX7_isAhead_23 : decode cX7_isAhead 23 = .ok (.if_icmp .le 7, 3) := by decide +kernel
theorem dX7_isAhead_26 : decode cX7_isAhead 26 = .ok (.iconst 1, 1) := by decide +kernel
theorem dX7_isAhead_27 : decode cX7_isAhead 27 = .ok (.goto 4, 3) := by decide +kernel
theorem dX7_isAhead_30 : decode cX7_isAhead 30 = .ok (.iconst 0, 1) := by decide +kernel
theorem dX7_isAhead_31 : decode cX7_isAhead 31 = .ok (.ireturn, 1) := by decide +kernel
theorem dX7_isAhead_32 : decode cX7_isAhead 32 = .ok (.aload_n 0, 1) := by decide +kernel
theorem dX7_isAhead_33 : decode cX7_isAhead 33 = .ok (.iconst 3, 1) := by decide +kernel
theorem dX7_isAhead_34 : decode cX7_isAhead 34 = .ok (.iload_n 1, 1) := by decide +kernel
theorem dX7_isAhead_35 : decode cX7_isAhead 35 = .ok (.invokevirtual 153, 3) := by decide +kernel
theorem dX7_isAhead_38 : decode cX7_isAhead 38 = .ok (.aload_n 0, 1) := by decide +kernel
theorem dX7_isAhead_39 : decode cX7_isAhead 39 = .ok (.iconst 3, 1) := by decide +kernel
theorem dX7_isAhead_40 : decode cX7_isAhead 40 = .ok (.iload_n 2, 1) := by decide +kernel
theorem dX7_isAhead_41 : decode cX7_isAhead 41 = .ok (.invokevirtual 153, 3) := by decide +kernel
theorem dX7_isAhead_44 : decode cX7_isAhead 44 = .ok (.if_icmp .eq 24, 3) := by decide +kernel
theorem dX7_isAhead_47 : decode cX7_isAhead 47 = .ok (.aload_n 0, 1) := by decide +kernel
theorem dX7_isAhead_48 : decode cX7_isAhead 48 = .ok (.iconst 3, 1) := by decide +kernel
theorem dX7_isAhead_49 : decode cX7_isAhead 49 = .ok (.iload_n 1, 1) := by decide +kernel
theorem dX7_isAhead_50 : decode cX7_isAhead 50 = .ok (.invokevirtual 153, 3) := by decide +kernel
theorem dX7_isAhead_53 : decode cX7_isAhead 53 = .ok (.aload_n 0, 1) := by decide +kernel
theorem dX7_isAhead_54 : decode cX7_isAhead 54 = .ok (.iconst 3, 1) := by decide +kernel
theorem dX7_isAhead_55 : decode cX7_isAhead 55 = .ok (.iload_n 2, 1) := by decide +kernel
theorem dX7_isAhead_56 : decode cX7_isAhead 56 = .ok (.invokevirtual 153, 3) := by decide +kernel
theorem dX7_isAhead_59 : decode cX7_isAhead 59 = .ok (.if_icmp .le 7, 3) := by decide +kernel
theorem dX7_isAhead_62 : decode cX7_isAhead 62 = .ok (.iconst 1, 1) := by decide +kernel
theorem dX7_isAhead_63 : decode cX7_isAhead 63 = .ok (.goto 4, 3) := by decide +kernel
theorem dX7_isAhead_66 : decode cX7_isAhead 66 = .ok (.iconst 0, 1) := by decide +kernel
theorem dX7_isAhead_67 : decode cX7_isAhead 67 = .ok (.ireturn, 1) := by decide +kernel
theorem dX7_isAhead_68 : decode cX7_isAhead 68 = .ok (.iconst 0, 1) := by decide +kernel
theorem dX7_isAhead_69 : decode cX7_isAhead 69 = .ok (.istore_n 3, 1) := by decide +kernel
theorem dX7_isAhead_70 : decode cX7_isAhead 70 = .ok (.iload_n 3, 1) := by decide +kernel
theorem dX7_isAhead_71 : decode cX7_isAhead 71 = .ok (.iconst 3, 1) := by decide +kernel
theorem dX7_isAhead_72 : decode cX7_isAhead 72 = .ok (.if_icmp .ge 59, 3) := by decide +kernel
theorem dX7_isAhead_75 : decode cX7_isAhead 75 = .ok (.iconst 0, 1) := by decide +kernel
theorem dX7_isAhead_76 : decode cX7_isAhead 76 = .ok (.istore 4, 2) := by decide +kernel
theorem dX7_isAhead_78 : decode cX7_isAhead 78 = .ok (.iload 4, 2) := by decide +kernel
theorem dX7_isAhead_80 : decode cX7_isAhead 80 = .ok (.iconst 5, 1) := by decide +kernel
theorem dX7_isAhead_81 : decode cX7_isAhead 81 = .ok (.if_icmp .ge 44, 3) := by decide +kernel
theorem dX7_isAhead_84 : decode cX7_isAhead 84 = .ok (.aload_n 0, 1) := by decide +kernel
theorem dX7_isAhead_85 : decode cX7_isAhead 85 = .ok (.iload_n 3, 1) := by decide +kernel
theorem dX7_isAhead_86 : decode cX7_isAhead 86 = .ok (.iload_n 1, 1) := by decide +kernel
theorem dX7_isAhead_87 : decode cX7_isAhead 87 = .ok (.iload 4, 2) := by decide +kernel
theorem dX7_isAhead_89 : decode cX7_isAhead 89 = .ok (.invokevirtual 150, 3) := by decide +kernel
theorem dX7_isAhead_92 : decode cX7_isAhead 92 = .ok (.aload_n 0, 1) := by decide +kernel
theorem dX7_isAhead_93 : decode cX7_isAhead 93 = .ok (.iload_n 3, 1) := by decide +kernel
theorem dX7_isAhead_94 : decode cX7_isAhead 94 = .ok (.iload_n 2, 1) := by decide +kernel
theorem dX7_isAhead_95 : decode cX7_isAhead 95 = .ok (.iload 4, 2) := by decide +kernel
theorem dX7_isAhead_97 : decode cX7_isAhead 97 = .ok (.invokevirtual 150, 3) := by decide +kernel
theorem dX7_isAhead_100 : decode cX7_isAhead 100 = .ok (.isub, 1) := by decide +kernel
theorem dX7_isAhead_101 : decode cX7_isAhead 101 = .ok (.istore 5, 2) := by decide +kernel
theorem dX7_isAhead_103 : decode cX7_isAhead 103 = .ok (.iload 5, 2) := by decide +kernel
theorem dX7_isAhead_105 : decode cX7_isAhead 105 = .ok (.ifCond .eq 14, 3) := by decide +kernel
theorem dX7_isAhead_108 : decode cX7_isAhead 108 = .ok (.iload 5, 2) := by decide +kernel
theorem dX7_isAhead_110 : decode cX7_isAhead 110 = .ok (.ifCond .le 7, 3) := by decide +kernel
theorem dX7_isAhead_113 : decode cX7_isAhead 113 = .ok (.iconst 1, 1) := by decide +kernel
theorem dX7_isAhead_114 : decode cX7_isAhead 114 = .ok (.goto 4, 3) := by decide +kernel
theorem dX7_isAhead_117 : decode cX7_isAhead 117 = .ok (.iconst 0, 1) := by decide +kernel
theorem dX7_isAhead_118 : decode cX7_isAhead 118 = .ok (.ireturn, 1) := by decide +kernel
theorem dX7_isAhead_119 : decode cX7_isAhead 119 = .ok (.iinc 4 1, 3) := by decide +kernel
theorem dX7_isAhead_122 : decode cX7_isAhead 122 = .ok (.goto (-44), 3) := by decide +kernel
theorem dX7_isAhead_125 : decode cX7_isAhead 125 = .ok (.iinc 3 1, 3) := by decide +kernel
theorem dX7_isAhead_128 : decode cX7_isAhead 128 = .ok (.goto (-58), 3) := by decide +kernel
theorem dX7_isAhead_131 : decode cX7_isAhead 131 = .ok (.iload_n 1, 1) := by decide +kernel
theorem dX7_isAhead_132 : decode cX7_isAhead 132 = .ok (.iload_n 2, 1) := by decide +kernel
theorem dX7_isAhead_133 : decode cX7_isAhead 133 = .ok (.if_icmp .ge 7, 3) := by decide +kernel
theorem dX7_isAhead_136 : decode cX7_isAhead 136 = .ok (.iconst 1, 1) := by decide +kernel
theorem dX7_isAhead_137 : decode cX7_isAhead 137 = .ok (.goto 4, 3) := by decide +kernel
theorem dX7_isAhead_140 : decode cX7_isAhead 140 = .ok (.iconst 0, 1) := by decide +kernel
theorem dX7_isAhead_141 : decode cX7_isAhead 141 = .ok (.ireturn, 1) := by decide +kernel
theorem dX7_rankedOf_0 : decode cX7_rankedOf 0 = .ok (.iconst 0, 1) := by decide +kernel
theorem dX7_rankedOf_1 : decode cX7_rankedOf 1 = .ok (.istore_n 2, 1) := by decide +kernel
theorem dX7_rankedOf_2 : decode cX7_rankedOf 2 = .ok (.iload_n 2, 1) := by decide +kernel
theorem dX7_rankedOf_3 : decode cX7_rankedOf 3 = .ok (.aload_n 0, 1) := by decide +kernel
theorem dX7_rankedOf_4 : decode cX7_rankedOf 4 = .ok (.getfield 7, 3) := by decide +kernel
theorem dX7_rankedOf_7 : decode cX7_rankedOf 7 = .ok (.if_icmp .ge 60, 3) := by decide +kernel
theorem dX7_rankedOf_10 : decode cX7_rankedOf 10 = .ok (.iconst 0, 1) := by decide +kernel
theorem dX7_rankedOf_11 : decode cX7_rankedOf 11 = .ok (.istore_n 3, 1) := by decide +kernel
theorem dX7_rankedOf_12 : decode cX7_rankedOf 12 = .ok (.iconst 0, 1) := by decide +kernel
theorem dX7_rankedOf_13 : decode cX7_rankedOf 13 = .ok (.istore 4, 2) := by decide +kernel
theorem dX7_rankedOf_15 : decode cX7_rankedOf 15 = .ok (.iload 4, 2) := by decide +kernel
theorem dX7_rankedOf_17 : decode cX7_rankedOf 17 = .ok (.aload_n 0, 1) := by decide +kernel
theorem dX7_rankedOf_18 : decode cX7_rankedOf 18 = .ok (.getfield 7, 3) := by decide +kernel
theorem dX7_rankedOf_21 : decode cX7_rankedOf 21 = .ok (.if_icmp .ge 33, 3) := by decide +kernel
theorem dX7_rankedOf_24 : decode cX7_rankedOf 24 = .ok (.iload_n 3, 1) := by decide +kernel
theorem dX7_rankedOf_25 : decode cX7_rankedOf 25 = .ok (.iload 4, 2) := by decide +kernel
theorem dX7_rankedOf_27 : decode cX7_rankedOf 27 = .ok (.iload_n 2, 1) := by decide +kernel
theorem dX7_rankedOf_28 : decode cX7_rankedOf 28 = .ok (.if_icmp .eq 17, 3) := by decide +kernel
theorem dX7_rankedOf_31 : decode cX7_rankedOf 31 = .ok (.aload_n 0, 1) := by decide +kernel
theorem dX7_rankedOf_32 : decode cX7_rankedOf 32 = .ok (.iload 4, 2) := by decide +kernel
theorem dX7_rankedOf_34 : decode cX7_rankedOf 34 = .ok (.iload_n 2, 1) := by decide +kernel
theorem dX7_rankedOf_35 : decode cX7_rankedOf 35 = .ok (.invokevirtual 159, 3) := by decide +kernel
theorem dX7_rankedOf_38 : decode cX7_rankedOf 38 = .ok (.ifCond .eq 7, 3) := by decide +kernel
theorem dX7_rankedOf_41 : decode cX7_rankedOf 41 = .ok (.iconst 1, 1) := by decide +kernel
theorem dX7_rankedOf_42 : decode cX7_rankedOf 42 = .ok (.goto 4, 3) := by decide +kernel
theorem dX7_rankedOf_45 : decode cX7_rankedOf 45 = .ok (.iconst 0, 1) := by decide +kernel
theorem dX7_rankedOf_46 : decode cX7_rankedOf 46 = .ok (.iadd, 1) := by decide +kernel
theorem dX7_rankedOf_47 : decode cX7_rankedOf 47 = .ok (.istore_n 3, 1) := by decide +kernel
theorem dX7_rankedOf_48 : decode cX7_rankedOf 48 = .ok (.iinc 4 1, 3) := by decide +kernel
theorem dX7_rankedOf_51 : decode cX7_rankedOf 51 = .ok (.goto (-36), 3) := by decide +kernel
theorem dX7_rankedOf_54 : decode cX7_rankedOf 54 = .ok (.iload_n 3, 1) := by decide +kernel
theorem dX7_rankedOf_55 : decode cX7_rankedOf 55 = .ok (.iload_n 1, 1) := by decide +kernel
theorem dX7_rankedOf_56 : decode cX7_rankedOf 56 = .ok (.if_icmp .ne 5, 3) := by decide +kernel
theorem dX7_rankedOf_59 : decode cX7_rankedOf 59 = .ok (.iload_n 2, 1) := by decide +kernel
theorem dX7_rankedOf_60 : decode cX7_rankedOf 60 = .ok (.ireturn, 1) := by decide +kernel
theorem dX7_rankedOf_61 : decode cX7_rankedOf 61 = .ok (.iinc 2 1, 3) := by decide +kernel
theorem dX7_rankedOf_64 : decode cX7_rankedOf 64 = .ok (.goto (-62), 3) := by decide +kernel
theorem dX7_rankedOf_67 : decode cX7_rankedOf 67 = .ok (.iconst (-1), 1) := by decide +kernel
theorem dX7_rankedOf_68 : decode cX7_rankedOf 68 = .ok (.ireturn, 1) := by decide +kernel
theorem dX7_ranked_0 : decode cX7_ranked 0 = .ok (.iload_n 1, 1) := by decide +kernel
theorem dX7_ranked_1 : decode cX7_ranked 1 = .ok (.iconst 0, 1) := by decide +kernel
theorem dX7_ranked_2 : decode cX7_ranked 2 = .ok (.aload_n 0, 1) := by decide +kernel
theorem dX7_ranked_3 : decode cX7_ranked 3 = .ok (.getfield 7, 3) := by decide +kernel
theorem dX7_ranked_6 : decode cX7_ranked 6 = .ok (.iconst 1, 1) := by decide +kernel
theorem dX7_ranked_7 : decode cX7_ranked 7 = .ok (.isub, 1) := by decide +kernel
theorem dX7_ranked_8 : decode cX7_ranked 8 = .ok (.invokestatic 77, 3) := by decide +kernel
theorem dX7_ranked_11 : decode cX7_ranked 11 = .ok (.ifCond .eq 15, 3) := by decide +kernel
theorem dX7_ranked_14 : decode cX7_ranked 14 = .ok (.aload_n 0, 1) := by decide +kernel
theorem dX7_ranked_15 : decode cX7_ranked 15 = .ok (.aload_n 0, 1) := by decide +kernel
theorem dX7_ranked_16 : decode cX7_ranked 16 = .ok (.iload_n 1, 1) := by decide +kernel
theorem dX7_ranked_17 : decode cX7_ranked 17 = .ok (.invokevirtual 162, 3) := by decide +kernel
theorem dX7_ranked_20 : decode cX7_ranked 20 = .ok (.invokevirtual 93, 3) := by decide +kernel
theorem dX7_ranked_23 : decode cX7_ranked 23 = .ok (.goto 8, 3) := by decide +kernel
theorem dX7_ranked_26 : decode cX7_ranked 26 = .ok (.aload_n 0, 1) := by decide +kernel
theorem dX7_ranked_27 : decode cX7_ranked 27 = .ok (.iconst 1, 1) := by decide +kernel
theorem dX7_ranked_28 : decode cX7_ranked 28 = .ok (.invokevirtual 81, 3) := by decide +kernel
theorem dX7_ranked_31 : decode cX7_ranked 31 = .ok (.ireturn, 1) := by decide +kernel
theorem dX7_isTied_0 : decode cX7_isTied 0 = .ok (.aload_n 0, 1) := by decide +kernel
theorem dX7_isTied_1 : decode cX7_isTied 1 = .ok (.aload_n 0, 1) := by decide +kernel
theorem dX7_isTied_2 : decode cX7_isTied 2 = .ok (.iload_n 1, 1) := by decide +kernel
theorem dX7_isTied_3 : decode cX7_isTied 3 = .ok (.invokevirtual 96, 3) := by decide +kernel
theorem dX7_isTied_6 : decode cX7_isTied 6 = .ok (.ifCond .eq 7, 3) := by decide +kernel
theorem dX7_isTied_9 : decode cX7_isTied 9 = .ok (.iconst 0, 1) := by decide +kernel
theorem dX7_isTied_10 : decode cX7_isTied 10 = .ok (.goto 4, 3) := by decide +kernel
theorem dX7_isTied_13 : decode cX7_isTied 13 = .ok (.iconst 1, 1) := by decide +kernel
theorem dX7_isTied_14 : decode cX7_isTied 14 = .ok (.putfield 22, 3) := by decide +kernel
theorem dX7_isTied_17 : decode cX7_isTied 17 = .ok (.iconst 0, 1) := by decide +kernel
theorem dX7_isTied_18 : decode cX7_isTied 18 = .ok (.istore_n 2, 1) := by decide +kernel
theorem dX7_isTied_19 : decode cX7_isTied 19 = .ok (.iconst 0, 1) := by decide +kernel
theorem dX7_isTied_20 : decode cX7_isTied 20 = .ok (.istore_n 3, 1) := by decide +kernel
theorem dX7_isTied_21 : decode cX7_isTied 21 = .ok (.aload_n 0, 1) := by decide +kernel
theorem dX7_isTied_22 : decode cX7_isTied 22 = .ok (.getfield 22, 3) := by decide +kernel
theorem dX7_isTied_25 : decode cX7_isTied 25 = .ok (.ifCond .ne 45, 3) := by decide +kernel
theorem dX7_isTied_28 : decode cX7_isTied 28 = .ok (.iload_n 3, 1) := by decide +kernel
theorem dX7_isTied_29 : decode cX7_isTied 29 = .ok (.aload_n 0, 1) := by decide +kernel
theorem dX7_isTied_30 : decode cX7_isTied 30 = .ok (.getfield 7, 3) := by decide +kernel
theorem dX7_isTied_33 : decode cX7_isTied 33 = .ok (.if_icmp .ge 37, 3) := by decide +kernel
theorem dX7_isTied_36 : decode cX7_isTied 36 = .ok (.iload_n 2, 1) := by decide +kernel
theorem dX7_isTied_37 : decode cX7_isTied 37 = .ok (.ifCond .ne 21, 3) := by decide +kernel
theorem dX7_isTied_40 : decode cX7_isTied 40 = .ok (.iload_n 3, 1) := by decide +kernel
theorem dX7_isTied_41 : decode cX7_isTied 41 = .ok (.iload_n 1, 1) := by decide +kernel
theorem dX7_isTied_42 : decode cX7_isTied 42 = .ok (.if_icmp .eq 20, 3) := by decide +kernel
theorem dX7_isTied_45 : decode cX7_isTied 45 = .ok (.aload_n 0, 1) := by decide +kernel
theorem dX7_isTied_46 : decode cX7_isTied 46 = .ok (.iload_n 3, 1) := by decide +kernel
theorem dX7_isTied_47 : decode cX7_isTied 47 = .ok (.invokevirtual 156, 3) := by decide +kernel
theorem dX7_isTied_50 : decode cX7_isTied 50 = .ok (.aload_n 0, 1) := by decide +kernel
theorem dX7_isTied_51 : decode cX7_isTied 51 = .ok (.iload_n 1, 1) := by decide +kernel
theorem dX7_isTied_52 : decode cX7_isTied 52 = .ok (.invokevirtual 156, 3) := by decide +kernel
theorem dX7_isTied_55 : decode cX7_isTied 55 = .ok (.if_icmp .ne 7, 3) := by decide +kernel
theorem dX7_isTied_58 : decode cX7_isTied 58 = .ok (.iconst 1, 1) := by decide +kernel
theorem dX7_isTied_59 : decode cX7_isTied 59 = .ok (.goto 4, 3) := by decide +kernel
theorem dX7_isTied_62 : decode cX7_isTied 62 = .ok (.iconst 0, 1) := by decide +kernel
theorem dX7_isTied_63 : decode cX7_isTied 63 = .ok (.istore_n 2, 1) := by decide +kernel
theorem dX7_isTied_64 : decode cX7_isTied 64 = .ok (.iinc 3 1, 3) := by decide +kernel
theorem dX7_isTied_67 : decode cX7_isTied 67 = .ok (.goto (-46), 3) := by decide +kernel
theorem dX7_isTied_70 : decode cX7_isTied 70 = .ok (.iload_n 2, 1) := by decide +kernel
theorem dX7_isTied_71 : decode cX7_isTied 71 = .ok (.ireturn, 1) := by decide +kernel
theorem dX7_partsOfAll_0 : decode cX7_partsOfAll 0 = .ok (.iconst 0, 1) := by decide +kernel
theorem dX7_partsOfAll_1 : decode cX7_partsOfAll 1 = .ok (.istore_n 3, 1) := by decide +kernel
theorem dX7_partsOfAll_2 : decode cX7_partsOfAll 2 = .ok (.iconst 0, 1) := by decide +kernel
theorem dX7_partsOfAll_3 : decode cX7_partsOfAll 3 = .ok (.istore 4, 2) := by decide +kernel
theorem dX7_partsOfAll_5 : decode cX7_partsOfAll 5 = .ok (.iload 4, 2) := by decide +kernel
theorem dX7_partsOfAll_7 : decode cX7_partsOfAll 7 = .ok (.aload_n 0, 1) := by decide +kernel
theorem dX7_partsOfAll_8 : decode cX7_partsOfAll 8 = .ok (.aload_n 0, 1) := by decide +kernel
theorem dX7_partsOfAll_9 : decode cX7_partsOfAll 9 = .ok (.getfield 39, 3) := by decide +kernel
theorem dX7_partsOfAll_12 : decode cX7_partsOfAll 12 = .ok (.iload_n 1, 1) := by decide +kernel
theorem dX7_partsOfAll_13 : decode cX7_partsOfAll 13 = .ok (.iaload, 1) := by decide +kernel
theorem dX7_partsOfAll_14 : decode cX7_partsOfAll 14 = .ok (.invokevirtual 106, 3) := by decide +kernel
theorem dX7_partsOfAll_17 : decode cX7_partsOfAll 17 = .ok (.if_icmp .ge 98, 3) := by decide +kernel
theorem dX7_partsOfAll_20 : decode cX7_partsOfAll 20 = .ok (.aload_n 0, 1) := by decide +kernel
theorem dX7_partsOfAll_21 : decode cX7_partsOfAll 21 = .ok (.iload_n 1, 1) := by decide +kernel
theorem dX7_partsOfAll_22 : decode cX7_partsOfAll 22 = .ok (.iload 4, 2) := by decide +kernel
theorem dX7_partsOfAll_24 : decode cX7_partsOfAll 24 = .ok (.invokevirtual 89, 3) := by decide +kernel
theorem dX7_partsOfAll_27 : decode cX7_partsOfAll 27 = .ok (.istore 5, 2) := by decide +kernel
theorem dX7_partsOfAll_29 : decode cX7_partsOfAll 29 = .ok (.iconst 0, 1) := by decide +kernel
theorem dX7_partsOfAll_30 : decode cX7_partsOfAll 30 = .ok (.istore 6, 2) := by decide +kernel
theorem dX7_partsOfAll_32 : decode cX7_partsOfAll 32 = .ok (.iload 6, 2) := by decide +kernel
theorem dX7_partsOfAll_34 : decode cX7_partsOfAll 34 = .ok (.aload_n 0, 1) := by decide +kernel
theorem dX7_partsOfAll_35 : decode cX7_partsOfAll 35 = .ok (.getfield 49, 3) := by decide +kernel
theorem dX7_partsOfAll_38 : decode cX7_partsOfAll 38 = .ok (.iload 5, 2) := by decide +kernel
theorem dX7_partsOfAll_40 : decode cX7_partsOfAll 40 = .ok (.iaload, 1) := by decide +kernel
theorem dX7_partsOfAll_41 : decode cX7_partsOfAll 41 = .ok (.if_icmp .ge 68, 3) := by decide +kernel
theorem dX7_partsOfAll_44 : decode cX7_partsOfAll 44 = .ok (.iload_n 2, 1) := by decide +kernel
theorem dX7_partsOfAll_45 : decode cX7_partsOfAll 45 = .ok (.aload_n 0, 1) := by decide +kernel
theorem dX7_partsOfAll_46 : decode cX7_partsOfAll 46 = .ok (.getfield 49, 3) := by decide +kernel
theorem dX7_partsOfAll_49 : decode cX7_partsOfAll 49 = .ok (.iload 5, 2) := by decide +kernel
theorem dX7_partsOfAll_51 : decode cX7_partsOfAll 51 = .ok (.iconst 1, 1) := by decide +kernel
theorem dX7_partsOfAll_52 : decode cX7_partsOfAll 52 = .ok (.iadd, 1) := by decide +kernel
theorem dX7_partsOfAll_53 : decode cX7_partsOfAll 53 = .ok (.bipush 10, 2) := by decide +kernel
theorem dX7_partsOfAll_55 : decode cX7_partsOfAll 55 = .ok (.iload 6, 2) := by decide +kernel
theorem dX7_partsOfAll_57 : decode cX7_partsOfAll 57 = .ok (.imul, 1) := by decide +kernel
theorem dX7_partsOfAll_58 : decode cX7_partsOfAll 58 = .ok (.iadd, 1) := by decide +kernel
theorem dX7_partsOfAll_59 : decode cX7_partsOfAll 59 = .ok (.iaload, 1) := by decide +kernel
theorem dX7_partsOfAll_60 : decode cX7_partsOfAll 60 = .ok (.ishr, 1) := by decide +kernel
theorem dX7_partsOfAll_61 : decode cX7_partsOfAll 61 = .ok (.iconst 1, 1) := by decide +kernel
theorem dX7_partsOfAll_62 : decode cX7_partsOfAll 62 = .ok (.iand, 1) := by decide +kernel
theorem dX7_partsOfAll_63 : decode cX7_partsOfAll 63 = .ok (.iconst 1, 1) := by decide +kernel
theorem dX7_partsOfAll_64 : decode cX7_partsOfAll 64 = .ok (.if_icmp .ne 7, 3) := by decide +kernel
theorem dX7_partsOfAll_67 : decode cX7_partsOfAll 67 = .ok (.iconst 1, 1) := by decide +kernel
theorem dX7_partsOfAll_68 : decode cX7_partsOfAll 68 = .ok (.goto 4, 3) := by decide +kernel
theorem dX7_partsOfAll_71 : decode cX7_partsOfAll 71 = .ok (.iconst 0, 1) := by decide +kernel
theorem dX7_partsOfAll_72 : decode cX7_partsOfAll 72 = .ok (.istore 7, 2) := by decide +kernel
theorem dX7_partsOfAll_74 : decode cX7_partsOfAll 74 = .ok (.iload_n 3, 1) := by decide +kernel
theorem dX7_partsOfAll_75 : decode cX7_partsOfAll 75 = .ok (.iload 7, 2) := by decide +kernel
theorem dX7_partsOfAll_77 : decode cX7_partsOfAll 77 = .ok (.ifCond .eq 23, 3) := by decide +kernel
theorem dX7_partsOfAll_80 : decode cX7_partsOfAll 80 = .ok (.aload_n 0, 1) := by decide +kernel
theorem dX7_partsOfAll_81 : decode cX7_partsOfAll 81 = .ok (.getfield 49, 3) := by decide +kernel
theorem dX7_partsOfAll_84 : decode cX7_partsOfAll 84 = .ok (.iload 5, 2) := by decide +kernel
theorem dX7_partsOfAll_86 : decode cX7_partsOfAll 86 = .ok (.iconst 2, 1) := by decide +kernel
theorem dX7_partsOfAll_87 : decode cX7_partsOfAll 87 = .ok (.iadd, 1) := by decide +kernel
theorem dX7_partsOfAll_88 : decode cX7_partsOfAll 88 = .ok (.bipush 10, 2) := by decide +kernel
theorem dX7_partsOfAll_90 : decode cX7_partsOfAll 90 = .ok (.iload 6, 2) := by decide +kernel
theorem dX7_partsOfAll_92 : decode cX7_partsOfAll 92 = .ok (.imul, 1) := by decide +kernel
theorem dX7_partsOfAll_93 : decode cX7_partsOfAll 93 = .ok (.iadd, 1) := by decide +kernel
theorem dX7_partsOfAll_94 : decode cX7_partsOfAll 94 = .ok (.iaload, 1) := by decide +kernel
theorem dX7_partsOfAll_95 : decode cX7_partsOfAll 95 = .ok (.iconst 1, 1) := by decide +kernel
theorem dX7_partsOfAll_96 : decode cX7_partsOfAll 96 = .ok (.iadd, 1) := by decide +kernel
theorem dX7_partsOfAll_97 : decode cX7_partsOfAll 97 = .ok (.goto 4, 3) := by decide +kernel
theorem dX7_partsOfAll_100 : decode cX7_partsOfAll 100 = .ok (.iconst 0, 1) := by decide +kernel
theorem dX7_partsOfAll_101 : decode cX7_partsOfAll 101 = .ok (.iadd, 1) := by decide +kernel
theorem dX7_partsOfAll_102 : decode cX7_partsOfAll 102 = .ok (.istore_n 3, 1) := by decide +kernel
theorem dX7_partsOfAll_103 : decode cX7_partsOfAll 103 = .ok (.iinc 6 1, 3) := by decide +kernel
theorem dX7_partsOfAll_106 : decode cX7_partsOfAll 106 = .ok (.goto (-74), 3) := by decide +kernel
theorem dX7_partsOfAll_109 : decode cX7_partsOfAll 109 = .ok (.iinc 4 1, 3) := by decide +kernel
theorem dX7_partsOfAll_112 : decode cX7_partsOfAll 112 = .ok (.goto (-107), 3) := by decide +kernel
theorem dX7_partsOfAll_115 : decode cX7_partsOfAll 115 = .ok (.iload_n 3, 1) := by decide +kernel
theorem dX7_partsOfAll_116 : decode cX7_partsOfAll 116 = .ok (.ireturn, 1) := by decide +kernel
theorem dX7_give_0 : decode cX7_give 0 = .ok (.iload_n 1, 1) := by decide +kernel
theorem dX7_give_1 : decode cX7_give 1 = .ok (.iconst 0, 1) := by decide +kernel
theorem dX7_give_2 : decode cX7_give 2 = .ok (.aload_n 0, 1) := by decide +kernel
theorem dX7_give_3 : decode cX7_give 3 = .ok (.getfield 7, 3) := by decide +kernel
theorem dX7_give_6 : decode cX7_give 6 = .ok (.iconst 1, 1) := by decide +kernel
theorem dX7_give_7 : decode cX7_give 7 = .ok (.isub, 1) := by decide +kernel
theorem dX7_give_8 : decode cX7_give 8 = .ok (.invokestatic 77, 3) := by decide +kernel
theorem dX7_give_11 : decode cX7_give 11 = .ok (.ifCond .ne 9, 3) := by decide +kernel
theorem dX7_give_14 : decode cX7_give 14 = .ok (.aload_n 0, 1) := by decide +kernel
theorem dX7_give_15 : decode cX7_give 15 = .ok (.iconst 1, 1) := by decide +kernel
theorem dX7_give_16 : decode cX7_give 16 = .ok (.invokevirtual 81, 3) := by decide +kernel
theorem dX7_give_19 : decode cX7_give 19 = .ok (.ireturn, 1) := by decide +kernel
theorem dX7_give_20 : decode cX7_give 20 = .ok (.iload_n 2, 1) := by decide +kernel
theorem dX7_give_21 : decode cX7_give 21 = .ok (.iconst 1, 1) := by decide +kernel
theorem dX7_give_22 : decode cX7_give 22 = .ok (.sipush 9999, 3) := by decide +kernel
theorem dX7_give_25 : decode cX7_give 25 = .ok (.invokestatic 77, 3) := by decide +kernel
theorem dX7_give_28 : decode cX7_give 28 = .ok (.ifCond .ne 9, 3) := by decide +kernel
theorem dX7_give_31 : decode cX7_give 31 = .ok (.aload_n 0, 1) := by decide +kernel
theorem dX7_give_32 : decode cX7_give 32 = .ok (.iconst 2, 1) := by decide +kernel
theorem dX7_give_33 : decode cX7_give 33 = .ok (.invokevirtual 81, 3) := by decide +kernel
theorem dX7_give_36 : decode cX7_give 36 = .ok (.ireturn, 1) := by decide +kernel
theorem dX7_give_37 : decode cX7_give 37 = .ok (.aload_n 0, 1) := by decide +kernel
theorem dX7_give_38 : decode cX7_give 38 = .ok (.iload_n 1, 1) := by decide +kernel
theorem dX7_give_39 : decode cX7_give 39 = .ok (.invokevirtual 162, 3) := by decide +kernel
theorem dX7_give_42 : decode cX7_give 42 = .ok (.istore_n 3, 1) := by decide +kernel
theorem dX7_give_43 : decode cX7_give 43 = .ok (.iconst (-1), 1) := by decide +kernel
theorem dX7_give_44 : decode cX7_give 44 = .ok (.istore 4, 2) := by decide +kernel
theorem dX7_give_46 : decode cX7_give 46 = .ok (.iconst 0, 1) := by decide +kernel
theorem dX7_give_47 : decode cX7_give 47 = .ok (.istore 5, 2) := by decide +kernel
theorem dX7_give_49 : decode cX7_give 49 = .ok (.iload 5, 2) := by decide +kernel
theorem dX7_give_51 : decode cX7_give 51 = .ok (.iconst 4, 1) := by decide +kernel
theorem dX7_give_52 : decode cX7_give 52 = .ok (.if_icmp .ge 40, 3) := by decide +kernel
theorem dX7_give_55 : decode cX7_give 55 = .ok (.aload_n 0, 1) := by decide +kernel
theorem dX7_give_56 : decode cX7_give 56 = .ok (.getfield 55, 3) := by decide +kernel
theorem dX7_give_59 : decode cX7_give 59 = .ok (.bipush 6, 2) := by decide +kernel
theorem dX7_give_61 : decode cX7_give 61 = .ok (.iload 5, 2) := by decide +kernel
theorem dX7_give_63 : decode cX7_give 63 = .ok (.imul, 1) := by decide +kernel
theorem dX7_give_64 : decode cX7_give 64 = .ok (.iload_n 3, 1) := by decide +kernel
theorem dX7_give_65 : decode cX7_give 65 = .ok (.iadd, 1) := by decide +kernel
theorem dX7_give_66 : decode cX7_give 66 = .ok (.iaload, 1) := by decide +kernel
theorem dX7_give_67 : decode cX7_give 67 = .ok (.iconst 1, 1) := by decide +kernel
theorem dX7_give_68 : decode cX7_give 68 = .ok (.isub, 1) := by decide +kernel
theorem dX7_give_69 : decode cX7_give 69 = .ok (.istore 6, 2) := by decide +kernel
theorem dX7_give_71 : decode cX7_give 71 = .ok (.iload 6, 2) := by decide +kernel
theorem dX7_give_73 : decode cX7_give 73 = .ok (.iconst (-1), 1) := by decide +kernel
theorem dX7_give_74 : decode cX7_give 74 = .ok (.if_icmp .ne 8, 3) := by decide +kernel
theorem dX7_give_77 : decode cX7_give 77 = .ok (.iload 4, 2) := by decide +kernel
theorem dX7_give_79 : decode cX7_give 79 = .ok (.goto 5, 3) := by decide +kernel
theorem dX7_give_82 : decode cX7_give 82 = .ok (.iload 6, 2) := by decide +kernel
theorem dX7_give_84 : decode cX7_give 84 = .ok (.istore 4, 2) := by decide +kernel
theorem dX7_give_86 : decode cX7_give 86 = .ok (.iinc 5 1, 3) := by decide +kernel
theorem dX7_give_89 : decode cX7_give 89 = .ok (.goto (-40), 3) := by decide +kernel
theorem dX7_give_92 : decode cX7_give 92 = .ok (.iload 4, 2) := by decide +kernel
theorem dX7_give_94 : decode cX7_give 94 = .ok (.iconst (-1), 1) := by decide +kernel
theorem dX7_give_95 : decode cX7_give 95 = .ok (.if_icmp .ne 9, 3) := by decide +kernel
theorem dX7_give_98 : decode cX7_give 98 = .ok (.aload_n 0, 1) := by decide +kernel
theorem dX7_give_99 : decode cX7_give 99 = .ok (.iconst 3, 1) := by decide +kernel
theorem dX7_give_100 : decode cX7_give 100 = .ok (.invokevirtual 81, 3) := by decide +kernel
theorem dX7_give_103 : decode cX7_give 103 = .ok (.ireturn, 1) := by decide +kernel
theorem dX7_give_104 : decode cX7_give 104 = .ok (.aload_n 0, 1) := by decide +kernel
theorem dX7_give_105 : decode cX7_give 105 = .ok (.getfield 19, 3) := by decide +kernel
theorem dX7_give_108 : decode cX7_give 108 = .ok (.bipush 12, 2) := by decide +kernel
theorem dX7_give_110 : decode cX7_give 110 = .ok (.if_icmp .ne 9, 3) := by decide +kernel
theorem dX7_give_113 : decode cX7_give 113 = .ok (.aload_n 0, 1) := by decide +kernel
theorem dX7_give_114 : decode cX7_give 114 = .ok (.iconst 4, 1) := by decide +kernel
theorem dX7_give_115 : decode cX7_give 115 = .ok (.invokevirtual 81, 3) := by decide +kernel
theorem dX7_give_118 : decode cX7_give 118 = .ok (.ireturn, 1) := by decide +kernel
theorem dX7_give_119 : decode cX7_give 119 = .ok (.aload_n 0, 1) := by decide +kernel
theorem dX7_give_120 : decode cX7_give 120 = .ok (.getfield 68, 3) := by decide +kernel
theorem dX7_give_123 : decode cX7_give 123 = .ok (.aload_n 0, 1) := by decide +kernel
theorem dX7_give_124 : decode cX7_give 124 = .ok (.getfield 19, 3) := by decide +kernel
theorem dX7_give_127 : decode cX7_give 127 = .ok (.iload 4, 2) := by decide +kernel
theorem dX7_give_129 : decode cX7_give 129 = .ok (.iastore, 1) := by decide +kernel
theorem dX7_give_130 : decode cX7_give 130 = .ok (.aload_n 0, 1) := by decide +kernel
theorem dX7_give_131 : decode cX7_give 131 = .ok (.getfield 71, 3) := by decide +kernel
theorem dX7_give_134 : decode cX7_give 134 = .ok (.aload_n 0, 1) := by decide +kernel
theorem dX7_give_135 : decode cX7_give 135 = .ok (.getfield 19, 3) := by decide +kernel
theorem dX7_give_138 : decode cX7_give 138 = .ok (.iload_n 2, 1) := by decide +kernel
theorem dX7_give_139 : decode cX7_give 139 = .ok (.iastore, 1) := by decide +kernel
theorem dX7_give_140 : decode cX7_give 140 = .ok (.aload_n 0, 1) := by decide +kernel
theorem dX7_give_141 : decode cX7_give 141 = .ok (.iload 4, 2) := by decide +kernel
theorem dX7_give_143 : decode cX7_give 143 = .ok (.bipush 63, 2) := by decide +kernel
theorem dX7_give_145 : decode cX7_give 145 = .ok (.invokevirtual 165, 3) := by decide +kernel
theorem dX7_give_148 : decode cX7_give 148 = .ok (.istore 5, 2) := by decide +kernel
theorem dX7_give_150 : decode cX7_give 150 = .ok (.iload_n 2, 1) := by decide +kernel
theorem dX7_give_151 : decode cX7_give 151 = .ok (.istore 6, 2) := by decide +kernel
theorem dX7_give_153 : decode cX7_give 153 = .ok (.iconst 0, 1) := by decide +kernel
theorem dX7_give_154 : decode cX7_give 154 = .ok (.istore 7, 2) := by decide +kernel
theorem dX7_give_156 : decode cX7_give 156 = .ok (.iload 7, 2) := by decide +kernel
theorem dX7_give_158 : decode cX7_give 158 = .ok (.bipush 6, 2) := by decide +kernel
theorem dX7_give_160 : decode cX7_give 160 = .ok (.if_icmp .ge 50, 3) := by decide +kernel
theorem dX7_give_163 : decode cX7_give 163 = .ok (.iload_n 2, 1) := by decide +kernel
theorem dX7_give_164 : decode cX7_give 164 = .ok (.aload_n 0, 1) := by decide +kernel
theorem dX7_give_165 : decode cX7_give 165 = .ok (.iload 4, 2) := by decide +kernel
theorem dX7_give_167 : decode cX7_give 167 = .ok (.iconst 1, 1) := by decide +kernel
theorem dX7_give_168 : decode cX7_give 168 = .ok (.iload 7, 2) := by decide +kernel
theorem dX7_give_170 : decode cX7_give 170 = .ok (.ishl, 1) := by decide +kernel
theorem dX7_give_171 : decode cX7_give 171 = .ok (.invokevirtual 165, 3) := by decide +kernel
theorem dX7_give_174 : decode cX7_give 174 = .ok (.imul, 1) := by decide +kernel
theorem dX7_give_175 : decode cX7_give 175 = .ok (.iload 5, 2) := by decide +kernel
theorem dX7_give_177 : decode cX7_give 177 = .ok (.idiv, 1) := by decide +kernel
theorem dX7_give_178 : decode cX7_give 178 = .ok (.istore 8, 2) := by decide +kernel
theorem dX7_give_180 : decode cX7_give 180 = .ok (.aload_n 0, 1) := by decide +kernel
theorem dX7_give_181 : decode cX7_give 181 = .ok (.getfield 74, 3) := by decide +kernel
theorem dX7_give_184 : decode cX7_give 184 = .ok (.bipush 6, 2) := by decide +kernel
theorem dX7_give_186 : decode cX7_give 186 = .ok (.aload_n 0, 1) := by decide +kernel
theorem dX7_give_187 : decode cX7_give 187 = .ok (.getfield 19, 3) := by decide +kernel
theorem dX7_give_190 : decode cX7_give 190 = .ok (.imul, 1) := by decide +kernel
theorem dX7_give_191 : decode cX7_give 191 = .ok (.iload 7, 2) := by decide +kernel
theorem dX7_give_193 : decode cX7_give 193 = .ok (.iadd, 1) := by decide +kernel
theorem dX7_give_194 : decode cX7_give 194 = .ok (.iload 8, 2) := by decide +kernel
theorem dX7_give_196 : decode cX7_give 196 = .ok (.iastore, 1) := by decide +kernel
theorem dX7_give_197 : decode cX7_give 197 = .ok (.iload 6, 2) := by decide +kernel
theorem dX7_give_199 : decode cX7_give 199 = .ok (.iload 8, 2) := by decide +kernel
theorem dX7_give_201 : decode cX7_give 201 = .ok (.isub, 1) := by decide +kernel
theorem dX7_give_202 : decode cX7_give 202 = .ok (.istore 6, 2) := by decide +kernel
theorem dX7_give_204 : decode cX7_give 204 = .ok (.iinc 7 1, 3) := by decide +kernel
theorem dX7_give_207 : decode cX7_give 207 = .ok (.goto (-51), 3) := by decide +kernel
theorem dX7_give_210 : decode cX7_give 210 = .ok (.iload 5, 2) := by decide +kernel
theorem dX7_give_212 : decode cX7_give 212 = .ok (.istore 7, 2) := by decide +kernel
theorem dX7_give_214 : decode cX7_give 214 = .ok (.iload 7, 2) := by decide +kernel
theorem dX7_give_216 : decode cX7_give 216 = .ok (.ifCond .lt 100, 3) := by decide +kernel
theorem dX7_give_219 : decode cX7_give 219 = .ok (.iconst 0, 1) := by decide +kernel
theorem dX7_give_220 : decode cX7_give 220 = .ok (.istore 8, 2) := by decide +kernel
theorem dX7_give_222 : decode cX7_give 222 = .ok (.iload 8, 2) := by decide +kernel
theorem dX7_give_224 : decode cX7_give 224 = .ok (.bipush 6, 2) := by decide +kernel
theorem dX7_give_226 : decode cX7_give 226 = .ok (.if_icmp .ge 84, 3) := by decide +kernel
theorem dX7_give_229 : decode cX7_give 229 = .ok (.iload 6, 2) := by decide +kernel
theorem dX7_give_231 : decode cX7_give 231 = .ok (.ifCond .le 27, 3) := by decide +kernel
theorem dX7_give_234 : decode cX7_give 234 = .ok (.iload_n 2, 1) := by decide +kernel
theorem dX7_give_235 : decode cX7_give 235 = .ok (.aload_n 0, 1) := by decide +kernel
theorem dX7_give_236 : decode cX7_give 236 = .ok (.iload 4, 2) := by decide +kernel
theorem dX7_give_238 : decode cX7_give 238 = .ok (.iconst 1, 1) := by decide +kernel
theorem dX7_give_239 : decode cX7_give 239 = .ok (.iload 8, 2) := by decide +kernel
theorem dX7_give_241 : decode cX7_give 241 = .ok (.ishl, 1) := by decide +kernel
theorem dX7_give_242 : decode cX7_give 242 = .ok (.invokevirtual 165, 3) := by decide +kernel
theorem dX7_give_245 : decode cX7_give 245 = .ok (.imul, 1) := by decide +kernel
theorem dX7_give_246 : decode cX7_give 246 = .ok (.iload 5, 2) := by decide +kernel
theorem dX7_give_248 : decode cX7_give 248 = .ok (.irem, 1) := by decide +kernel
theorem dX7_give_249 : decode cX7_give 249 = .ok (.iload 7, 2) := by decide +kernel
theorem dX7_give_251 : decode cX7_give 251 = .ok (.if_icmp .ne 7, 3) := by decide +kernel
theorem dX7_give_254 : decode cX7_give 254 = .ok (.iconst 1, 1) := by decide +kernel
theorem dX7_give_255 : decode cX7_give 255 = .ok (.goto 4, 3) := by decide +kernel
theorem dX7_give_258 : decode cX7_give 258 = .ok (.iconst 0, 1) := by decide +kernel
theorem dX7_give_259 : decode cX7_give 259 = .ok (.istore 9, 2) := by decide +kernel
theorem dX7_give_261 : decode cX7_give 261 = .ok (.aload_n 0, 1) := by decide +kernel
theorem dX7_give_262 : decode cX7_give 262 = .ok (.getfield 74, 3) := by decide +kernel
theorem dX7_give_265 : decode cX7_give 265 = .ok (.bipush 6, 2) := by decide +kernel
theorem dX7_give_267 : decode cX7_give 267 = .ok (.aload_n 0, 1) := by decide +kernel
theorem dX7_give_268 : decode cX7_give 268 = .ok (.getfield 19, 3) := by decide +kernel
theorem dX7_give_271 : decode cX7_give 271 = .ok (.imul, 1) := by decide +kernel
theorem dX7_give_272 : decode cX7_give 272 = .ok (.iload 8, 2) := by decide +kernel
theorem dX7_give_274 : decode cX7_give 274 = .ok (.iadd, 1) := by decide +kernel
theorem dX7_give_275 : decode cX7_give 275 = .ok (.dup2, 1) := by decide +kernel
theorem dX7_give_276 : decode cX7_give 276 = .ok (.iaload, 1) := by decide +kernel
theorem dX7_give_277 : decode cX7_give 277 = .ok (.iload 9, 2) := by decide +kernel
theorem dX7_give_279 : decode cX7_give 279 = .ok (.ifCond .eq 7, 3) := by decide +kernel
theorem dX7_give_282 : decode cX7_give 282 = .ok (.iconst 1, 1) := by decide +kernel
theorem dX7_give_283 : decode cX7_give 283 = .ok (.goto 4, 3) := by decide +kernel
theorem dX7_give_286 : decode cX7_give 286 = .ok (.iconst 0, 1) := by decide +kernel
theorem dX7_give_287 : decode cX7_give 287 = .ok (.iadd, 1) := by decide +kernel
theorem dX7_give_288 : decode cX7_give 288 = .ok (.iastore, 1) := by decide +kernel
theorem dX7_give_289 : decode cX7_give 289 = .ok (.iload 6, 2) := by decide +kernel
theorem dX7_give_291 : decode cX7_give 291 = .ok (.iload 9, 2) := by decide +kernel
theorem dX7_give_293 : decode cX7_give 293 = .ok (.ifCond .eq 7, 3) := by decide +kernel
theorem dX7_give_296 : decode cX7_give 296 = .ok (.iconst 1, 1) := by decide +kernel
theorem dX7_give_297 : decode cX7_give 297 = .ok (.goto 4, 3) := by decide +kernel
theorem dX7_give_300 : decode cX7_give 300 = .ok (.iconst 0, 1) := by decide +kernel
theorem dX7_give_301 : decode cX7_give 301 = .ok (.isub, 1) := by decide +kernel
theorem dX7_give_302 : decode cX7_give 302 = .ok (.istore 6, 2) := by decide +kernel
theorem dX7_give_304 : decode cX7_give 304 = .ok (.iinc 8 1, 3) := by decide +kernel
theorem dX7_give_307 : decode cX7_give 307 = .ok (.goto (-85), 3) := by decide +kernel
theorem dX7_give_310 : decode cX7_give 310 = .ok (.iinc 7 (-1), 3) := by decide +kernel
theorem dX7_give_313 : decode cX7_give 313 = .ok (.goto (-99), 3) := by decide +kernel
theorem dX7_give_316 : decode cX7_give 316 = .ok (.aload_n 0, 1) := by decide +kernel
theorem dX7_give_317 : decode cX7_give 317 = .ok (.dup, 1) := by decide +kernel
theorem dX7_give_318 : decode cX7_give 318 = .ok (.getfield 19, 3) := by decide +kernel
theorem dX7_give_321 : decode cX7_give 321 = .ok (.iconst 1, 1) := by decide +kernel
theorem dX7_give_322 : decode cX7_give 322 = .ok (.iadd, 1) := by decide +kernel
theorem dX7_give_323 : decode cX7_give 323 = .ok (.putfield 19, 3) := by decide +kernel
theorem dX7_give_326 : decode cX7_give 326 = .ok (.aload_n 0, 1) := by decide +kernel
theorem dX7_give_327 : decode cX7_give 327 = .ok (.aload_n 0, 1) := by decide +kernel
theorem dX7_give_328 : decode cX7_give 328 = .ok (.getfield 19, 3) := by decide +kernel
theorem dX7_give_331 : decode cX7_give 331 = .ok (.iconst 1, 1) := by decide +kernel
theorem dX7_give_332 : decode cX7_give 332 = .ok (.isub, 1) := by decide +kernel
theorem dX7_give_333 : decode cX7_give 333 = .ok (.invokevirtual 93, 3) := by decide +kernel
theorem dX7_give_336 : decode cX7_give 336 = .ok (.ireturn, 1) := by decide +kernel
theorem dX7_named_0 : decode cX7_named 0 = .ok (.iload_n 1, 1) := by decide +kernel
theorem dX7_named_1 : decode cX7_named 1 = .ok (.iconst 0, 1) := by decide +kernel
theorem dX7_named_2 : decode cX7_named 2 = .ok (.aload_n 0, 1) := by decide +kernel
theorem dX7_named_3 : decode cX7_named 3 = .ok (.getfield 19, 3) := by decide +kernel
theorem dX7_named_6 : decode cX7_named 6 = .ok (.iconst 1, 1) := by decide +kernel
theorem dX7_named_7 : decode cX7_named 7 = .ok (.isub, 1) := by decide +kernel
theorem dX7_named_8 : decode cX7_named 8 = .ok (.invokestatic 77, 3) := by decide +kernel
theorem dX7_named_11 : decode cX7_named 11 = .ok (.ifCond .eq 16, 3) := by decide +kernel
theorem dX7_named_14 : decode cX7_named 14 = .ok (.aload_n 0, 1) := by decide +kernel
theorem dX7_named_15 : decode cX7_named 15 = .ok (.aload_n 0, 1) := by decide +kernel
theorem dX7_named_16 : decode cX7_named 16 = .ok (.getfield 68, 3) := by decide +kernel
theorem dX7_named_19 : decode cX7_named 19 = .ok (.iload_n 1, 1) := by decide +kernel
theorem dX7_named_20 : decode cX7_named 20 = .ok (.iaload, 1) := by decide +kernel
theorem dX7_named_21 : decode cX7_named 21 = .ok (.invokevirtual 93, 3) := by decide +kernel
theorem dX7_named_24 : decode cX7_named 24 = .ok (.goto 8, 3) := by decide +kernel
theorem dX7_named_27 : decode cX7_named 27 = .ok (.aload_n 0, 1) := by decide +kernel
theorem dX7_named_28 : decode cX7_named 28 = .ok (.iconst 1, 1) := by decide +kernel
theorem dX7_named_29 : decode cX7_named 29 = .ok (.invokevirtual 81, 3) := by decide +kernel
theorem dX7_named_32 : decode cX7_named 32 = .ok (.ireturn, 1) := by decide +kernel
theorem dX7_share_0 : decode cX7_share 0 = .ok (.iload_n 1, 1) := by decide +kernel
theorem dX7_share_1 : decode cX7_share 1 = .ok (.iconst 0, 1) := by decide +kernel
theorem dX7_share_2 : decode cX7_share 2 = .ok (.aload_n 0, 1) := by decide +kernel
theorem dX7_share_3 : decode cX7_share 3 = .ok (.getfield 19, 3) := by decide +kernel
theorem dX7_share_6 : decode cX7_share 6 = .ok (.iconst 1, 1) := by decide +kernel
theorem dX7_share_7 : decode cX7_share 7 = .ok (.isub, 1) := by decide +kernel
theorem dX7_share_8 : decode cX7_share 8 = .ok (.invokestatic 77, 3) := by decide +kernel
theorem dX7_share_11 : decode cX7_share 11 = .ok (.ifCond .eq 30, 3) := by decide +kernel
theorem dX7_share_14 : decode cX7_share 14 = .ok (.iload_n 2, 1) := by decide +kernel
theorem dX7_share_15 : decode cX7_share 15 = .ok (.iconst 0, 1) := by decide +kernel
theorem dX7_share_16 : decode cX7_share 16 = .ok (.iconst 5, 1) := by decide +kernel
theorem dX7_share_17 : decode cX7_share 17 = .ok (.invokestatic 77, 3) := by decide +kernel
theorem dX7_share_20 : decode cX7_share 20 = .ok (.ifCond .eq 21, 3) := by decide +kernel
theorem dX7_share_23 : decode cX7_share 23 = .ok (.aload_n 0, 1) := by decide +kernel
theorem dX7_share_24 : decode cX7_share 24 = .ok (.aload_n 0, 1) := by decide +kernel
theorem dX7_share_25 : decode cX7_share 25 = .ok (.getfield 74, 3) := by decide +kernel
theorem dX7_share_28 : decode cX7_share 28 = .ok (.bipush 6, 2) := by decide +kernel
theorem dX7_share_30 : decode cX7_share 30 = .ok (.iload_n 1, 1) := by decide +kernel
theorem dX7_share_31 : decode cX7_share 31 = .ok (.imul, 1) := by decide +kernel
theorem dX7_share_32 : decode cX7_share 32 = .ok (.iload_n 2, 1) := by decide +kernel
theorem dX7_share_33 : decode cX7_share 33 = .ok (.iadd, 1) := by decide +kernel
theorem dX7_share_34 : decode cX7_share 34 = .ok (.iaload, 1) := by decide +kernel
theorem dX7_share_35 : decode cX7_share 35 = .ok (.invokevirtual 93, 3) := by decide +kernel
theorem dX7_share_38 : decode cX7_share 38 = .ok (.goto 8, 3) := by decide +kernel
theorem dX7_share_41 : decode cX7_share 41 = .ok (.aload_n 0, 1) := by decide +kernel
theorem dX7_share_42 : decode cX7_share 42 = .ok (.iconst 1, 1) := by decide +kernel
theorem dX7_share_43 : decode cX7_share 43 = .ok (.invokevirtual 81, 3) := by decide +kernel
theorem dX7_share_46 : decode cX7_share 46 = .ok (.ireturn, 1) := by decide +kernel
theorem dX7_got_0 : decode cX7_got 0 = .ok (.iload_n 1, 1) := by decide +kernel
theorem dX7_got_1 : decode cX7_got 1 = .ok (.iconst 0, 1) := by decide +kernel
theorem dX7_got_2 : decode cX7_got 2 = .ok (.iconst 5, 1) := by decide +kernel
theorem dX7_got_3 : decode cX7_got 3 = .ok (.invokestatic 77, 3) := by decide +kernel
theorem dX7_got_6 : decode cX7_got 6 = .ok (.ifCond .ne 9, 3) := by decide +kernel
theorem dX7_got_9 : decode cX7_got 9 = .ok (.aload_n 0, 1) := by decide +kernel
theorem dX7_got_10 : decode cX7_got 10 = .ok (.iconst 1, 1) := by decide +kernel
theorem dX7_got_11 : decode cX7_got 11 = .ok (.invokevirtual 81, 3) := by decide +kernel
theorem dX7_got_14 : decode cX7_got 14 = .ok (.ireturn, 1) := by decide +kernel
theorem dX7_got_15 : decode cX7_got 15 = .ok (.iconst 0, 1) := by decide +kernel
theorem dX7_got_16 : decode cX7_got 16 = .ok (.istore_n 2, 1) := by decide +kernel
theorem dX7_got_17 : decode cX7_got 17 = .ok (.iconst 0, 1) := by decide +kernel
theorem dX7_got_18 : decode cX7_got 18 = .ok (.istore_n 3, 1) := by decide +kernel
theorem dX7_got_19 : decode cX7_got 19 = .ok (.iload_n 3, 1) := by decide +kernel
theorem dX7_got_20 : decode cX7_got 20 = .ok (.aload_n 0, 1) := by decide +kernel
theorem dX7_got_21 : decode cX7_got 21 = .ok (.getfield 19, 3) := by decide +kernel
theorem dX7_got_24 : decode cX7_got 24 = .ok (.if_icmp .ge 23, 3) := by decide +kernel
theorem dX7_got_27 : decode cX7_got 27 = .ok (.iload_n 2, 1) := by decide +kernel
theorem dX7_got_28 : decode cX7_got 28 = .ok (.aload_n 0, 1) := by decide +kernel
theorem dX7_got_29 : decode cX7_got 29 = .ok (.getfield 74, 3) := by decide +kernel
theorem dX7_got_32 : decode cX7_got 32 = .ok (.bipush 6, 2) := by decide +kernel
theorem dX7_got_34 : decode cX7_got 34 = .ok (.iload_n 3, 1) := by decide +kernel
theorem dX7_got_35 : decode cX7_got 35 = .ok (.imul, 1) := by decide +kernel
theorem dX7_got_36 : decode cX7_got 36 = .ok (.iload_n 1, 1) := by decide +kernel
theorem dX7_got_37 : decode cX7_got 37 = .ok (.iadd, 1) := by decide +kernel
theorem dX7_got_38 : decode cX7_got 38 = .ok (.iaload, 1) := by decide +kernel
theorem dX7_got_39 : decode cX7_got 39 = .ok (.iadd, 1) := by decide +kernel
theorem dX7_got_40 : decode cX7_got 40 = .ok (.istore_n 2, 1) := by decide +kernel
theorem dX7_got_41 : decode cX7_got 41 = .ok (.iinc 3 1, 3) := by decide +kernel
theorem dX7_got_44 : decode cX7_got 44 = .ok (.goto (-25), 3) := by decide +kernel
theorem dX7_got_47 : decode cX7_got 47 = .ok (.aload_n 0, 1) := by decide +kernel
theorem dX7_got_48 : decode cX7_got 48 = .ok (.iload_n 2, 1) := by decide +kernel
theorem dX7_got_49 : decode cX7_got 49 = .ok (.invokevirtual 93, 3) := by decide +kernel
theorem dX7_got_52 : decode cX7_got 52 = .ok (.ireturn, 1) := by decide +kernel
theorem dX7_partsOf_0 : decode cX7_partsOf 0 = .ok (.aload_n 0, 1) := by decide +kernel
theorem dX7_partsOf_1 : decode cX7_partsOf 1 = .ok (.iload_n 1, 1) := by decide +kernel
theorem dX7_partsOf_2 : decode cX7_partsOf 2 = .ok (.invokevirtual 100, 3) := by decide +kernel
theorem dX7_partsOf_5 : decode cX7_partsOf 5 = .ok (.ifCond .ne 9, 3) := by decide +kernel
theorem dX7_partsOf_8 : decode cX7_partsOf 8 = .ok (.aload_n 0, 1) := by decide +kernel
theorem dX7_partsOf_9 : decode cX7_partsOf 9 = .ok (.iconst 1, 1) := by decide +kernel
theorem dX7_partsOf_10 : decode cX7_partsOf 10 = .ok (.invokevirtual 81, 3) := by decide +kernel
theorem dX7_partsOf_13 : decode cX7_partsOf 13 = .ok (.ireturn, 1) := by decide +kernel
theorem dX7_partsOf_14 : decode cX7_partsOf 14 = .ok (.iload_n 2, 1) := by decide +kernel
theorem dX7_partsOf_15 : decode cX7_partsOf 15 = .ok (.iconst 0, 1) := by decide +kernel
theorem dX7_partsOf_16 : decode cX7_partsOf 16 = .ok (.bipush 63, 2) := by decide +kernel
theorem dX7_partsOf_18 : decode cX7_partsOf 18 = .ok (.invokestatic 77, 3) := by decide +kernel
theorem dX7_partsOf_21 : decode cX7_partsOf 21 = .ok (.ifCond .eq 16, 3) := by decide +kernel
theorem dX7_partsOf_24 : decode cX7_partsOf 24 = .ok (.aload_n 0, 1) := by decide +kernel
theorem dX7_partsOf_25 : decode cX7_partsOf 25 = .ok (.aload_n 0, 1) := by decide +kernel
theorem dX7_partsOf_26 : decode cX7_partsOf 26 = .ok (.iload_n 1, 1) := by decide +kernel
theorem dX7_partsOf_27 : decode cX7_partsOf 27 = .ok (.iload_n 2, 1) := by decide +kernel
theorem dX7_partsOf_28 : decode cX7_partsOf 28 = .ok (.invokevirtual 165, 3) := by decide +kernel
theorem dX7_partsOf_31 : decode cX7_partsOf 31 = .ok (.invokevirtual 93, 3) := by decide +kernel
theorem dX7_partsOf_34 : decode cX7_partsOf 34 = .ok (.goto 8, 3) := by decide +kernel
theorem dX7_partsOf_37 : decode cX7_partsOf 37 = .ok (.aload_n 0, 1) := by decide +kernel
theorem dX7_partsOf_38 : decode cX7_partsOf 38 = .ok (.iconst 2, 1) := by decide +kernel
theorem dX7_partsOf_39 : decode cX7_partsOf 39 = .ok (.invokevirtual 81, 3) := by decide +kernel
theorem dX7_partsOf_42 : decode cX7_partsOf 42 = .ok (.ireturn, 1) := by decide +kernel
theorem dX7_versions_0 : decode cX7_versions 0 = .ok (.aload_n 0, 1) := by decide +kernel
theorem dX7_versions_1 : decode cX7_versions 1 = .ok (.aload_n 0, 1) := by decide +kernel
theorem dX7_versions_2 : decode cX7_versions 2 = .ok (.getfield 13, 3) := by decide +kernel
theorem dX7_versions_5 : decode cX7_versions 5 = .ok (.invokevirtual 93, 3) := by decide +kernel
theorem dX7_versions_8 : decode cX7_versions 8 = .ok (.ireturn, 1) := by decide +kernel
theorem dX7_marksThere_0 : decode cX7_marksThere 0 = .ok (.iconst 0, 1) := by decide +kernel
theorem dX7_marksThere_1 : decode cX7_marksThere 1 = .ok (.istore_n 2, 1) := by decide +kernel
theorem dX7_marksThere_2 : decode cX7_marksThere 2 = .ok (.iconst 0, 1) := by decide +kernel
theorem dX7_marksThere_3 : decode cX7_marksThere 3 = .ok (.istore_n 3, 1) := by decide +kernel
theorem dX7_marksThere_4 : decode cX7_marksThere 4 = .ok (.iload_n 3, 1) := by decide +kernel
theorem dX7_marksThere_5 : decode cX7_marksThere 5 = .ok (.bipush 120, 2) := by decide +kernel
theorem dX7_marksThere_7 : decode cX7_marksThere 7 = .ok (.if_icmp .ge 39, 3) := by decide +kernel
theorem dX7_marksThere_10 : decode cX7_marksThere 10 = .ok (.iload_n 2, 1) := by decide +kernel
theorem dX7_marksThere_11 : decode cX7_marksThere 11 = .ok (.aload_n 0, 1) := by decide +kernel
theorem dX7_marksThere_12 : decode cX7_marksThere 12 = .ok (.getfield 58, 3) := by decide +kernel
theorem dX7_marksThere_15 : decode cX7_marksThere 15 = .ok (.iload_n 3, 1) := by decide +kernel
theorem dX7_marksThere_16 : decode cX7_marksThere 16 = .ok (.iaload, 1) := by decide +kernel
theorem dX7_marksThere_17 : decode cX7_marksThere 17 = .ok (.ifCond .le 20, 3) := by decide +kernel
theorem dX7_marksThere_20 : decode cX7_marksThere 20 = .ok (.iload_n 1, 1) := by decide +kernel
theorem dX7_marksThere_21 : decode cX7_marksThere 21 = .ok (.ifCond .eq 12, 3) := by decide +kernel
theorem dX7_marksThere_24 : decode cX7_marksThere 24 = .ok (.aload_n 0, 1) := by decide +kernel
theorem dX7_marksThere_25 : decode cX7_marksThere 25 = .ok (.getfield 61, 3) := by decide +kernel
theorem dX7_marksThere_28 : decode cX7_marksThere 28 = .ok (.iload_n 3, 1) := by decide +kernel
theorem dX7_marksThere_29 : decode cX7_marksThere 29 = .ok (.baload, 1) := by decide +kernel
theorem dX7_marksThere_30 : decode cX7_marksThere 30 = .ok (.ifCond .ne 7, 3) := by decide +kernel
theorem dX7_marksThere_33 : decode cX7_marksThere 33 = .ok (.iconst 1, 1) := by decide +kernel
theorem dX7_marksThere_34 : decode cX7_marksThere 34 = .ok (.goto 4, 3) := by decide +kernel
theorem dX7_marksThere_37 : decode cX7_marksThere 37 = .ok (.iconst 0, 1) := by decide +kernel
theorem dX7_marksThere_38 : decode cX7_marksThere 38 = .ok (.iadd, 1) := by decide +kernel
theorem dX7_marksThere_39 : decode cX7_marksThere 39 = .ok (.istore_n 2, 1) := by decide +kernel
theorem dX7_marksThere_40 : decode cX7_marksThere 40 = .ok (.iinc 3 1, 3) := by decide +kernel
theorem dX7_marksThere_43 : decode cX7_marksThere 43 = .ok (.goto (-39), 3) := by decide +kernel
theorem dX7_marksThere_46 : decode cX7_marksThere 46 = .ok (.iload_n 2, 1) := by decide +kernel
theorem dX7_marksThere_47 : decode cX7_marksThere 47 = .ok (.ireturn, 1) := by decide +kernel
theorem dX7_countShare_0 : decode cX7_countShare 0 = .ok (.aload_n 0, 1) := by decide +kernel
theorem dX7_countShare_1 : decode cX7_countShare 1 = .ok (.aload_n 0, 1) := by decide +kernel
theorem dX7_countShare_2 : decode cX7_countShare 2 = .ok (.iconst 0, 1) := by decide +kernel
theorem dX7_countShare_3 : decode cX7_countShare 3 = .ok (.invokevirtual 168, 3) := by decide +kernel
theorem dX7_countShare_6 : decode cX7_countShare 6 = .ok (.ifCond .ne 7, 3) := by decide +kernel
theorem dX7_countShare_9 : decode cX7_countShare 9 = .ok (.iconst 1, 1) := by decide +kernel
theorem dX7_countShare_10 : decode cX7_countShare 10 = .ok (.goto 4, 3) := by decide +kernel
theorem dX7_countShare_13 : decode cX7_countShare 13 = .ok (.iconst 0, 1) := by decide +kernel
theorem dX7_countShare_14 : decode cX7_countShare 14 = .ok (.putfield 22, 3) := by decide +kernel
theorem dX7_countShare_17 : decode cX7_countShare 17 = .ok (.aload_n 0, 1) := by decide +kernel
theorem dX7_countShare_18 : decode cX7_countShare 18 = .ok (.getfield 22, 3) := by decide +kernel
theorem dX7_countShare_21 : decode cX7_countShare 21 = .ok (.ifCond .le 7, 3) := by decide +kernel
theorem dX7_countShare_24 : decode cX7_countShare 24 = .ok (.fconst 0, 1) := by decide +kernel
theorem dX7_countShare_25 : decode cX7_countShare 25 = .ok (.goto 16, 3) := by decide +kernel
theorem dX7_countShare_28 : decode cX7_countShare 28 = .ok (.aload_n 0, 1) := by decide +kernel
theorem dX7_countShare_29 : decode cX7_countShare 29 = .ok (.iconst 1, 1) := by decide +kernel
theorem dX7_countShare_30 : decode cX7_countShare 30 = .ok (.invokevirtual 168, 3) := by decide +kernel
theorem dX7_countShare_33 : decode cX7_countShare 33 = .ok (.i2f, 1) := by decide +kernel
theorem dX7_countShare_34 : decode cX7_countShare 34 = .ok (.aload_n 0, 1) := by decide +kernel
theorem dX7_countShare_35 : decode cX7_countShare 35 = .ok (.iconst 0, 1) := by decide +kernel
theorem dX7_countShare_36 : decode cX7_countShare 36 = .ok (.invokevirtual 168, 3) := by decide +kernel
theorem dX7_countShare_39 : decode cX7_countShare 39 = .ok (.i2f, 1) := by decide +kernel
theorem dX7_countShare_40 : decode cX7_countShare 40 = .ok (.fdiv, 1) := by decide +kernel
theorem dX7_countShare_41 : decode cX7_countShare 41 = .ok (.freturn, 1) := by decide +kernel
theorem dX7_meanMark_0 : decode cX7_meanMark 0 = .ok (.iconst 0, 1) := by decide +kernel
theorem dX7_meanMark_1 : decode cX7_meanMark 1 = .ok (.istore_n 1, 1) := by decide +kernel
theorem dX7_meanMark_2 : decode cX7_meanMark 2 = .ok (.iconst 0, 1) := by decide +kernel
theorem dX7_meanMark_3 : decode cX7_meanMark 3 = .ok (.istore_n 2, 1) := by decide +kernel
theorem dX7_meanMark_4 : decode cX7_meanMark 4 = .ok (.iload_n 2, 1) := by decide +kernel
theorem dX7_meanMark_5 : decode cX7_meanMark 5 = .ok (.bipush 120, 2) := by decide +kernel
theorem dX7_meanMark_7 : decode cX7_meanMark 7 = .ok (.if_icmp .ge 42, 3) := by decide +kernel
theorem dX7_meanMark_10 : decode cX7_meanMark 10 = .ok (.iload_n 1, 1) := by decide +kernel
theorem dX7_meanMark_11 : decode cX7_meanMark 11 = .ok (.aload_n 0, 1) := by decide +kernel
theorem dX7_meanMark_12 : decode cX7_meanMark 12 = .ok (.getfield 58, 3) := by decide +kernel
theorem dX7_meanMark_15 : decode cX7_meanMark 15 = .ok (.iload_n 2, 1) := by decide +kernel
theorem dX7_meanMark_16 : decode cX7_meanMark 16 = .ok (.iaload, 1) := by decide +kernel
theorem dX7_meanMark_17 : decode cX7_meanMark 17 = .ok (.ifCond .le 23, 3) := by decide +kernel
theorem dX7_meanMark_20 : decode cX7_meanMark 20 = .ok (.aload_n 0, 1) := by decide +kernel
theorem dX7_meanMark_21 : decode cX7_meanMark 21 = .ok (.getfield 61, 3) := by decide +kernel
theorem dX7_meanMark_24 : decode cX7_meanMark 24 = .ok (.iload_n 2, 1) := by decide +kernel
theorem dX7_meanMark_25 : decode cX7_meanMark 25 = .ok (.baload, 1) := by decide +kernel
theorem dX7_meanMark_26 : decode cX7_meanMark 26 = .ok (.ifCond .ne 14, 3) := by decide +kernel
theorem dX7_meanMark_29 : decode cX7_meanMark 29 = .ok (.aload_n 0, 1) := by decide +kernel
theorem dX7_meanMark_30 : decode cX7_meanMark 30 = .ok (.getfield 58, 3) := by decide +kernel
theorem dX7_meanMark_33 : decode cX7_meanMark 33 = .ok (.iload_n 2, 1) := by decide +kernel
theorem dX7_meanMark_34 : decode cX7_meanMark 34 = .ok (.iaload, 1) := by decide +kernel
theorem dX7_meanMark_35 : decode cX7_meanMark 35 = .ok (.iconst 1, 1) := by decide +kernel
theorem dX7_meanMark_36 : decode cX7_meanMark 36 = .ok (.isub, 1) := by decide +kernel
theorem dX7_meanMark_37 : decode cX7_meanMark 37 = .ok (.goto 4, 3) := by decide +kernel
theorem dX7_meanMark_40 : decode cX7_meanMark 40 = .ok (.iconst 0, 1) := by decide +kernel
theorem dX7_meanMark_41 : decode cX7_meanMark 41 = .ok (.iadd, 1) := by decide +kernel
theorem dX7_meanMark_42 : decode cX7_meanMark 42 = .ok (.istore_n 1, 1) := by decide +kernel
theorem dX7_meanMark_43 : decode cX7_meanMark 43 = .ok (.iinc 2 1, 3) := by decide +kernel
theorem dX7_meanMark_46 : decode cX7_meanMark 46 = .ok (.goto (-42), 3) := by decide +kernel
theorem dX7_meanMark_49 : decode cX7_meanMark 49 = .ok (.aload_n 0, 1) := by decide +kernel
theorem dX7_meanMark_50 : decode cX7_meanMark 50 = .ok (.aload_n 0, 1) := by decide +kernel
theorem dX7_meanMark_51 : decode cX7_meanMark 51 = .ok (.iconst 1, 1) := by decide +kernel
theorem dX7_meanMark_52 : decode cX7_meanMark 52 = .ok (.invokevirtual 168, 3) := by decide +kernel
theorem dX7_meanMark_55 : decode cX7_meanMark 55 = .ok (.ifCond .ne 7, 3) := by decide +kernel
theorem dX7_meanMark_58 : decode cX7_meanMark 58 = .ok (.iconst 1, 1) := by decide +kernel
theorem dX7_meanMark_59 : decode cX7_meanMark 59 = .ok (.goto 4, 3) := by decide +kernel
theorem dX7_meanMark_62 : decode cX7_meanMark 62 = .ok (.iconst 0, 1) := by decide +kernel
theorem dX7_meanMark_63 : decode cX7_meanMark 63 = .ok (.putfield 22, 3) := by decide +kernel
theorem dX7_meanMark_66 : decode cX7_meanMark 66 = .ok (.aload_n 0, 1) := by decide +kernel
theorem dX7_meanMark_67 : decode cX7_meanMark 67 = .ok (.getfield 22, 3) := by decide +kernel
theorem dX7_meanMark_70 : decode cX7_meanMark 70 = .ok (.ifCond .le 7, 3) := by decide +kernel
theorem dX7_meanMark_73 : decode cX7_meanMark 73 = .ok (.dconst 0, 1) := by decide +kernel
theorem dX7_meanMark_74 : decode cX7_meanMark 74 = .ok (.goto 12, 3) := by decide +kernel
theorem dX7_meanMark_77 : decode cX7_meanMark 77 = .ok (.iload_n 1, 1) := by decide +kernel
theorem dX7_meanMark_78 : decode cX7_meanMark 78 = .ok (.i2d, 1) := by decide +kernel
theorem dX7_meanMark_79 : decode cX7_meanMark 79 = .ok (.aload_n 0, 1) := by decide +kernel
theorem dX7_meanMark_80 : decode cX7_meanMark 80 = .ok (.iconst 1, 1) := by decide +kernel
theorem dX7_meanMark_81 : decode cX7_meanMark 81 = .ok (.invokevirtual 168, 3) := by decide +kernel
theorem dX7_meanMark_84 : decode cX7_meanMark 84 = .ok (.i2d, 1) := by decide +kernel
theorem dX7_meanMark_85 : decode cX7_meanMark 85 = .ok (.ddiv, 1) := by decide +kernel
theorem dX7_meanMark_86 : decode cX7_meanMark 86 = .ok (.dreturn, 1) := by decide +kernel
theorem dX7_checksum_0 : decode cX7_checksum 0 = .ok (.aload_n 0, 1) := by decide +kernel
theorem dX7_checksum_1 : decode cX7_checksum 1 = .ok (.aload_n 0, 1) := by decide +kernel
theorem dX7_checksum_2 : decode cX7_checksum 2 = .ok (.iload_n 1, 1) := by decide +kernel
theorem dX7_checksum_3 : decode cX7_checksum 3 = .ok (.invokevirtual 100, 3) := by decide +kernel
theorem dX7_checksum_6 : decode cX7_checksum 6 = .ok (.ifCond .eq 7, 3) := by decide +kernel
theorem dX7_checksum_9 : decode cX7_checksum 9 = .ok (.iconst 0, 1) := by decide +kernel
theorem dX7_checksum_10 : decode cX7_checksum 10 = .ok (.goto 4, 3) := by decide +kernel
theorem dX7_checksum_13 : decode cX7_checksum 13 = .ok (.iconst 1, 1) := by decide +kernel
theorem dX7_checksum_14 : decode cX7_checksum 14 = .ok (.putfield 22, 3) := by decide +kernel
theorem dX7_checksum_17 : decode cX7_checksum 17 = .ok (.aload_n 0, 1) := by decide +kernel
theorem dX7_checksum_18 : decode cX7_checksum 18 = .ok (.getfield 22, 3) := by decide +kernel
theorem dX7_checksum_21 : decode cX7_checksum 21 = .ok (.ifCond .le 5, 3) := by decide +kernel
theorem dX7_checksum_24 : decode cX7_checksum 24 = .ok (.lconst 0, 1) := by decide +kernel
theorem dX7_checksum_25 : decode cX7_checksum 25 = .ok (.lreturn, 1) := by decide +kernel
theorem dX7_checksum_26 : decode cX7_checksum 26 = .ok (.ldc2_w 172, 3) := by decide +kernel
theorem dX7_checksum_29 : decode cX7_checksum 29 = .ok (.lstore_n 2, 1) := by decide +kernel
theorem dX7_checksum_30 : decode cX7_checksum 30 = .ok (.iconst 0, 1) := by decide +kernel
theorem dX7_checksum_31 : decode cX7_checksum 31 = .ok (.istore 4, 2) := by decide +kernel
theorem dX7_checksum_33 : decode cX7_checksum 33 = .ok (.iload 4, 2) := by decide +kernel
theorem dX7_checksum_35 : decode cX7_checksum 35 = .ok (.aload_n 0, 1) := by decide +kernel
theorem dX7_checksum_36 : decode cX7_checksum 36 = .ok (.aload_n 0, 1) := by decide +kernel
theorem dX7_checksum_37 : decode cX7_checksum 37 = .ok (.getfield 39, 3) := by decide +kernel
theorem dX7_checksum_40 : decode cX7_checksum 40 = .ok (.iload_n 1, 1) := by decide +kernel
theorem dX7_checksum_41 : decode cX7_checksum 41 = .ok (.iaload, 1) := by decide +kernel
theorem dX7_checksum_42 : decode cX7_checksum 42 = .ok (.invokevirtual 106, 3) := by decide +kernel
theorem dX7_checksum_45 : decode cX7_checksum 45 = .ok (.if_icmp .ge 119, 3) := by decide +kernel
theorem dX7_checksum_48 : decode cX7_checksum 48 = .ok (.aload_n 0, 1) := by decide +kernel
theorem dX7_checksum_49 : decode cX7_checksum 49 = .ok (.iload_n 1, 1) := by decide +kernel
theorem dX7_checksum_50 : decode cX7_checksum 50 = .ok (.iload 4, 2) := by decide +kernel
theorem dX7_checksum_52 : decode cX7_checksum 52 = .ok (.invokevirtual 89, 3) := by decide +kernel
theorem dX7_checksum_55 : decode cX7_checksum 55 = .ok (.istore 5, 2) := by decide +kernel
theorem dX7_checksum_57 : decode cX7_checksum 57 = .ok (.iconst 0, 1) := by decide +kernel
theorem dX7_checksum_58 : decode cX7_checksum 58 = .ok (.istore 6, 2) := by decide +kernel
theorem dX7_checksum_60 : decode cX7_checksum 60 = .ok (.iload 6, 2) := by decide +kernel
theorem dX7_checksum_62 : decode cX7_checksum 62 = .ok (.aload_n 0, 1) := by decide +kernel
theorem dX7_checksum_63 : decode cX7_checksum 63 = .ok (.getfield 49, 3) := by decide +kernel
theorem dX7_checksum_66 : decode cX7_checksum 66 = .ok (.iload 5, 2) := by decide +kernel
theorem dX7_checksum_68 : decode cX7_checksum 68 = .ok (.iaload, 1) := by decide +kernel
theorem dX7_checksum_69 : decode cX7_checksum 69 = .ok (.if_icmp .ge 89, 3) := by decide +kernel
theorem dX7_checksum_72 : decode cX7_checksum 72 = .ok (.iload 5, 2) := by decide +kernel
theorem dX7_checksum_74 : decode cX7_checksum 74 = .ok (.iconst 1, 1) := by decide +kernel
theorem dX7_checksum_75 : decode cX7_checksum 75 = .ok (.iadd, 1) := by decide +kernel
theorem dX7_checksum_76 : decode cX7_checksum 76 = .ok (.bipush 10, 2) := by decide +kernel
theorem dX7_checksum_78 : decode cX7_checksum 78 = .ok (.iload 6, 2) := by decide +kernel
theorem dX7_checksum_80 : decode cX7_checksum 80 = .ok (.imul, 1) := by decide +kernel
theorem dX7_checksum_81 : decode cX7_checksum 81 = .ok (.iadd, 1) := by decide +kernel
theorem dX7_checksum_82 : decode cX7_checksum 82 = .ok (.istore 7, 2) := by decide +kernel
theorem dX7_checksum_84 : decode cX7_checksum 84 = .ok (.ldc2_w 174, 3) := by decide +kernel
theorem dX7_checksum_87 : decode cX7_checksum 87 = .ok (.lload_n 2, 1) := by decide +kernel
theorem dX7_checksum_88 : decode cX7_checksum 88 = .ok (.lmul, 1) := by decide +kernel
theorem dX7_checksum_89 : decode cX7_checksum 89 = .ok (.aload_n 0, 1) := by decide +kernel
theorem dX7_checksum_90 : decode cX7_checksum 90 = .ok (.getfield 49, 3) := by decide +kernel
theorem dX7_checksum_93 : decode cX7_checksum 93 = .ok (.iload 7, 2) := by decide +kernel
theorem dX7_checksum_95 : decode cX7_checksum 95 = .ok (.iaload, 1) := by decide +kernel
theorem dX7_checksum_96 : decode cX7_checksum 96 = .ok (.i2l, 1) := by decide +kernel
theorem dX7_checksum_97 : decode cX7_checksum 97 = .ok (.ladd, 1) := by decide +kernel
theorem dX7_checksum_98 : decode cX7_checksum 98 = .ok (.lstore_n 2, 1) := by decide +kernel
theorem dX7_checksum_99 : decode cX7_checksum 99 = .ok (.iconst 0, 1) := by decide +kernel
theorem dX7_checksum_100 : decode cX7_checksum 100 = .ok (.istore 8, 2) := by decide +kernel
theorem dX7_checksum_102 : decode cX7_checksum 102 = .ok (.iload 8, 2) := by decide +kernel
theorem dX7_checksum_104 : decode cX7_checksum 104 = .ok (.aload_n 0, 1) := by decide +kernel
theorem dX7_checksum_105 : decode cX7_checksum 105 = .ok (.getfield 49, 3) := by decide +kernel
theorem dX7_checksum_108 : decode cX7_checksum 108 = .ok (.iload 7, 2) := by decide +kernel
theorem dX7_checksum_110 : decode cX7_checksum 110 = .ok (.iconst 1, 1) := by decide +kernel
theorem dX7_checksum_111 : decode cX7_checksum 111 = .ok (.iadd, 1) := by decide +kernel
theorem dX7_checksum_112 : decode cX7_checksum 112 = .ok (.iaload, 1) := by decide +kernel
theorem dX7_checksum_113 : decode cX7_checksum 113 = .ok (.if_icmp .ge 29, 3) := by decide +kernel
theorem dX7_checksum_116 : decode cX7_checksum 116 = .ok (.ldc2_w 174, 3) := by decide +kernel
theorem dX7_checksum_119 : decode cX7_checksum 119 = .ok (.lload_n 2, 1) := by decide +kernel
theorem dX7_checksum_120 : decode cX7_checksum 120 = .ok (.lmul, 1) := by decide +kernel
theorem dX7_checksum_121 : decode cX7_checksum 121 = .ok (.aload_n 0, 1) := by decide +kernel
theorem dX7_checksum_122 : decode cX7_checksum 122 = .ok (.getfield 49, 3) := by decide +kernel
theorem dX7_checksum_125 : decode cX7_checksum 125 = .ok (.iload 7, 2) := by decide +kernel
theorem dX7_checksum_127 : decode cX7_checksum 127 = .ok (.iconst 2, 1) := by decide +kernel
theorem dX7_checksum_128 : decode cX7_checksum 128 = .ok (.iadd, 1) := by decide +kernel
theorem dX7_checksum_129 : decode cX7_checksum 129 = .ok (.iload 8, 2) := by decide +kernel
theorem dX7_checksum_131 : decode cX7_checksum 131 = .ok (.iadd, 1) := by decide +kernel
theorem dX7_checksum_132 : decode cX7_checksum 132 = .ok (.iaload, 1) := by decide +kernel
theorem dX7_checksum_133 : decode cX7_checksum 133 = .ok (.i2l, 1) := by decide +kernel
theorem dX7_checksum_134 : decode cX7_checksum 134 = .ok (.ladd, 1) := by decide +kernel
theorem dX7_checksum_135 : decode cX7_checksum 135 = .ok (.lstore_n 2, 1) := by decide +kernel
theorem dX7_checksum_136 : decode cX7_checksum 136 = .ok (.iinc 8 1, 3) := by decide +kernel
theorem dX7_checksum_139 : decode cX7_checksum 139 = .ok (.goto (-37), 3) := by decide +kernel
theorem dX7_checksum_142 : decode cX7_checksum 142 = .ok (.ldc2_w 174, 3) := by decide +kernel
theorem dX7_checksum_145 : decode cX7_checksum 145 = .ok (.lload_n 2, 1) := by decide +kernel
theorem dX7_checksum_146 : decode cX7_checksum 146 = .ok (.lmul, 1) := by decide +kernel
theorem dX7_checksum_147 : decode cX7_checksum 147 = .ok (.ldc2_w 176, 3) := by decide +kernel
theorem dX7_checksum_150 : decode cX7_checksum 150 = .ok (.ladd, 1) := by decide +kernel
theorem dX7_checksum_151 : decode cX7_checksum 151 = .ok (.lstore_n 2, 1) := by decide +kernel
theorem dX7_checksum_152 : decode cX7_checksum 152 = .ok (.iinc 6 1, 3) := by decide +kernel
theorem dX7_checksum_155 : decode cX7_checksum 155 = .ok (.goto (-95), 3) := by decide +kernel
theorem dX7_checksum_158 : decode cX7_checksum 158 = .ok (.iinc 4 1, 3) := by decide +kernel
theorem dX7_checksum_161 : decode cX7_checksum 161 = .ok (.goto (-128), 3) := by decide +kernel
theorem dX7_checksum_164 : decode cX7_checksum 164 = .ok (.lload_n 2, 1) := by decide +kernel
theorem dX7_checksum_165 : decode cX7_checksum 165 = .ok (.lreturn, 1) := by decide +kernel
theorem dX7_isSound_0 : decode cX7_isSound 0 = .ok (.aload_n 0, 1) := by decide +kernel
theorem dX7_isSound_1 : decode cX7_isSound 1 = .ok (.iconst 0, 1) := by decide +kernel
theorem dX7_isSound_2 : decode cX7_isSound 2 = .ok (.putfield 22, 3) := by decide +kernel
theorem dX7_isSound_5 : decode cX7_isSound 5 = .ok (.iconst 1, 1) := by decide +kernel
theorem dX7_isSound_6 : decode cX7_isSound 6 = .ok (.ireturn, 1) := by decide +kernel
