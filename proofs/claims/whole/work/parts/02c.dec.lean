theorem dX10_init_0 : decode cX10_init 0 = .ok (.aload_n 0, 1) := by decide +kernel
theorem dX10_init_1 : decode cX10_init 1 = .ok (.invokespecial 1, 3) := by decide +kernel
theorem dX10_init_4 : decode cX10_init 4 = .ok (.aload_n 0, 1) := by decide +kernel
theorem dX10_init_5 : decode cX10_init 5 = .ok (.bipush 99, 2) := by decide +kernel
theorem dX10_init_7 : decode cX10_init 7 = .ok (.newarray .int, 2) := by decide +kernel
theorem dX10_init_9 : decode cX10_init 9 = .ok (.putfield 7, 3) := by decide +kernel
theorem dX10_init_12 : decode cX10_init 12 = .ok (.aload_n 0, 1) := by decide +kernel
theorem dX10_init_13 : decode cX10_init 13 = .ok (.bipush 8, 2) := by decide +kernel
theorem dX10_init_15 : decode cX10_init 15 = .ok (.newarray .int, 2) := by decide +kernel
theorem dX10_init_17 : decode cX10_init 17 = .ok (.putfield 13, 3) := by decide +kernel
theorem dX10_init_20 : decode cX10_init 20 = .ok (.aload_n 0, 1) := by decide +kernel
theorem dX10_init_21 : decode cX10_init 21 = .ok (.bipush 50, 2) := by decide +kernel
theorem dX10_init_23 : decode cX10_init 23 = .ok (.newarray .int, 2) := by decide +kernel
theorem dX10_init_25 : decode cX10_init 25 = .ok (.putfield 16, 3) := by decide +kernel
theorem dX10_init_28 : decode cX10_init 28 = .ok (.aload_n 0, 1) := by decide +kernel
theorem dX10_init_29 : decode cX10_init 29 = .ok (.bipush 50, 2) := by decide +kernel
theorem dX10_init_31 : decode cX10_init 31 = .ok (.newarray .int, 2) := by decide +kernel
theorem dX10_init_33 : decode cX10_init 33 = .ok (.putfield 19, 3) := by decide +kernel
theorem dX10_init_36 : decode cX10_init 36 = .ok (.aload_n 0, 1) := by decide +kernel
theorem dX10_init_37 : decode cX10_init 37 = .ok (.bipush 50, 2) := by decide +kernel
theorem dX10_init_39 : decode cX10_init 39 = .ok (.newarray .int, 2) := by decide +kernel
theorem dX10_init_41 : decode cX10_init 41 = .ok (.putfield 22, 3) := by decide +kernel
theorem dX10_init_44 : decode cX10_init 44 = .ok (.aload_n 0, 1) := by decide +kernel
theorem dX10_init_45 : decode cX10_init 45 = .ok (.sipush 700, 3) := by decide +kernel
theorem dX10_init_48 : decode cX10_init 48 = .ok (.newarray .int, 2) := by decide +kernel
theorem dX10_init_50 : decode cX10_init 50 = .ok (.putfield 25, 3) := by decide +kernel
theorem dX10_init_53 : decode cX10_init 53 = .ok (.aload_n 0, 1) := by decide +kernel
theorem dX10_init_54 : decode cX10_init 54 = .ok (.bipush 100, 2) := by decide +kernel
theorem dX10_init_56 : decode cX10_init 56 = .ok (.newarray .int, 2) := by decide +kernel
theorem dX10_init_58 : decode cX10_init 58 = .ok (.putfield 28, 3) := by decide +kernel
theorem dX10_init_61 : decode cX10_init 61 = .ok (.aload_n 0, 1) := by decide +kernel
theorem dX10_init_62 : decode cX10_init 62 = .ok (.iconst 2, 1) := by decide +kernel
theorem dX10_init_63 : decode cX10_init 63 = .ok (.newarray .boolean, 2) := by decide +kernel
theorem dX10_init_65 : decode cX10_init 65 = .ok (.putfield 31, 3) := by decide +kernel
theorem dX10_init_68 : decode cX10_init 68 = .ok (.aload_n 0, 1) := by decide +kernel
theorem dX10_init_69 : decode cX10_init 69 = .ok (.bipush 8, 2) := by decide +kernel
theorem dX10_init_71 : decode cX10_init 71 = .ok (.newarray .int, 2) := by decide +kernel
theorem dX10_init_73 : decode cX10_init 73 = .ok (.putfield 35, 3) := by decide +kernel
theorem dX10_init_76 : decode cX10_init 76 = .ok (.aload_n 0, 1) := by decide +kernel
theorem dX10_init_77 : decode cX10_init 77 = .ok (.bipush 50, 2) := by decide +kernel
theorem dX10_init_79 : decode cX10_init 79 = .ok (.newarray .int, 2) := by decide +kernel
theorem dX10_init_81 : decode cX10_init 81 = .ok (.putfield 38, 3) := by decide +kernel
theorem dX10_init_84 : decode cX10_init 84 = .ok (.aload_n 0, 1) := by decide +kernel
theorem dX10_init_85 : decode cX10_init 85 = .ok (.bipush 8, 2) := by decide +kernel
theorem dX10_init_87 : decode cX10_init 87 = .ok (.newarray .int, 2) := by decide +kernel
theorem dX10_init_89 : decode cX10_init 89 = .ok (.putfield 41, 3) := by decide +kernel
theorem dX10_init_92 : decode cX10_init 92 = .ok (.aload_n 0, 1) := by decide +kernel
theorem dX10_init_93 : decode cX10_init 93 = .ok (.bipush 8, 2) := by decide +kernel
theorem dX10_init_95 : decode cX10_init 95 = .ok (.newarray .int, 2) := by decide +kernel
theorem dX10_init_97 : decode cX10_init 97 = .ok (.putfield 44, 3) := by decide +kernel
theorem dX10_init_100 : decode cX10_init 100 = .ok (.aload_n 0, 1) := by decide +kernel
theorem dX10_init_101 : decode cX10_init 101 = .ok (.bipush 8, 2) := by decide +kernel
theorem dX10_init_103 : decode cX10_init 103 = .ok (.newarray .boolean, 2) := by decide +kernel
theorem dX10_init_105 : decode cX10_init 105 = .ok (.putfield 47, 3) := by decide +kernel
theorem dX10_init_108 : decode cX10_init 108 = .ok (.aload_n 0, 1) := by decide +kernel
theorem dX10_init_109 : decode cX10_init 109 = .ok (.bipush 8, 2) := by decide +kernel
theorem dX10_init_111 : decode cX10_init 111 = .ok (.newarray .int, 2) := by decide +kernel
theorem dX10_init_113 : decode cX10_init 113 = .ok (.putfield 50, 3) := by decide +kernel
theorem dX10_init_116 : decode cX10_init 116 = .ok (.aload_n 0, 1) := by decide +kernel
theorem dX10_init_117 : decode cX10_init 117 = .ok (.iconst 1, 1) := by decide +kernel
theorem dX10_init_118 : decode cX10_init 118 = .ok (.putfield 53, 3) := by decide +kernel
theorem dX10_init_121 : decode cX10_init 121 = .ok (.aload_n 0, 1) := by decide +kernel
theorem dX10_init_122 : decode cX10_init 122 = .ok (.getfield 16, 3) := by decide +kernel
theorem dX10_init_125 : decode cX10_init 125 = .ok (.iconst 0, 1) := by decide +kernel
theorem dX10_init_126 : decode cX10_init 126 = .ok (.iconst 1, 1) := by decide +kernel
theorem dX10_init_127 : decode cX10_init 127 = .ok (.iastore, 1) := by decide +kernel
theorem dX10_init_128 : decode cX10_init 128 = .ok (.aload_n 0, 1) := by decide +kernel
theorem dX10_init_129 : decode cX10_init 129 = .ok (.getfield 16, 3) := by decide +kernel
theorem dX10_init_132 : decode cX10_init 132 = .ok (.iconst 1, 1) := by decide +kernel
theorem dX10_init_133 : decode cX10_init 133 = .ok (.iconst 1, 1) := by decide +kernel
theorem dX10_init_134 : decode cX10_init 134 = .ok (.iastore, 1) := by decide +kernel
theorem dX10_init_135 : decode cX10_init 135 = .ok (.return_, 1) := by decide +kernel
theorem dX10_copy_0 : decode cX10_copy 0 = .ok (.iconst 0, 1) := by decide +kernel
theorem dX10_copy_1 : decode cX10_copy 1 = .ok (.istore_n 2, 1) := by decide +kernel
theorem dX10_copy_2 : decode cX10_copy 2 = .ok (.iload_n 2, 1) := by decide +kernel
theorem dX10_copy_3 : decode cX10_copy 3 = .ok (.bipush 50, 2) := by decide +kernel
theorem dX10_copy_5 : decode cX10_copy 5 = .ok (.if_icmp .ge 15, 3) := by decide +kernel
theorem dX10_copy_8 : decode cX10_copy 8 = .ok (.aload_n 1, 1) := by decide +kernel
theorem dX10_copy_9 : decode cX10_copy 9 = .ok (.iload_n 2, 1) := by decide +kernel
theorem dX10_copy_10 : decode cX10_copy 10 = .ok (.aload_n 0, 1) := by decide +kernel
theorem dX10_copy_11 : decode cX10_copy 11 = .ok (.iload_n 2, 1) := by decide +kernel
theorem dX10_copy_12 : decode cX10_copy 12 = .ok (.iaload, 1) := by decide +kernel
theorem dX10_copy_13 : decode cX10_copy 13 = .ok (.iastore, 1) := by decide +kernel
theorem dX10_copy_14 : decode cX10_copy 14 = .ok (.iinc 2 1, 3) := by decide +kernel
theorem dX10_copy_17 : decode cX10_copy 17 = .ok (.goto (-15), 3) := by decide +kernel
theorem dX10_copy_20 : decode cX10_copy 20 = .ok (.return_, 1) := by decide +kernel
theorem dX10_in_0 : decode cX10_in 0 = .ok (.lload_n 0, 1) := by decide +kernel
theorem dX10_in_1 : decode cX10_in 1 = .ok (.lload_n 2, 1) := by decide +kernel
theorem dX10_in_2 : decode cX10_in 2 = .ok (.lcmp, 1) := by decide +kernel
theorem dX10_in_3 : decode cX10_in 3 = .ok (.ifCond .lt 14, 3) := by decide +kernel
theorem dX10_in_6 : decode cX10_in 6 = .ok (.lload_n 0, 1) := by decide +kernel
theorem dX10_in_7 : decode cX10_in 7 = .ok (.lload 4, 2) := by decide +kernel
theorem dX10_in_9 : decode cX10_in 9 = .ok (.lcmp, 1) := by decide +kernel
theorem dX10_in_10 : decode cX10_in 10 = .ok (.ifCond .gt 7, 3) := by decide +kernel
theorem dX10_in_13 : decode cX10_in 13 = .ok (.iconst 1, 1) := by decide +kernel
theorem dX10_in_14 : decode cX10_in 14 = .ok (.goto 4, 3) := by decide +kernel
theorem dX10_in_17 : decode cX10_in 17 = .ok (.iconst 0, 1) := by decide +kernel
theorem dX10_in_18 : decode cX10_in 18 = .ok (.ireturn, 1) := by decide +kernel
theorem dX10_isBlock_0 : decode cX10_isBlock 0 = .ok (.iload_n 1, 1) := by decide +kernel
theorem dX10_isBlock_1 : decode cX10_isBlock 1 = .ok (.i2l, 1) := by decide +kernel
theorem dX10_isBlock_2 : decode cX10_isBlock 2 = .ok (.lconst 0, 1) := by decide +kernel
theorem dX10_isBlock_3 : decode cX10_isBlock 3 = .ok (.aload_n 0, 1) := by decide +kernel
theorem dX10_isBlock_4 : decode cX10_isBlock 4 = .ok (.getfield 53, 3) := by decide +kernel
theorem dX10_isBlock_7 : decode cX10_isBlock 7 = .ok (.iconst 1, 1) := by decide +kernel
theorem dX10_isBlock_8 : decode cX10_isBlock 8 = .ok (.isub, 1) := by decide +kernel
theorem dX10_isBlock_9 : decode cX10_isBlock 9 = .ok (.i2l, 1) := by decide +kernel
theorem dX10_isBlock_10 : decode cX10_isBlock 10 = .ok (.invokestatic 57, 3) := by decide +kernel
theorem dX10_isBlock_13 : decode cX10_isBlock 13 = .ok (.ireturn, 1) := by decide +kernel
theorem dX10_isEdge_0 : decode cX10_isEdge 0 = .ok (.aload_n 0, 1) := by decide +kernel
theorem dX10_isEdge_1 : decode cX10_isEdge 1 = .ok (.iload_n 1, 1) := by decide +kernel
theorem dX10_isEdge_2 : decode cX10_isEdge 2 = .ok (.invokevirtual 61, 3) := by decide +kernel
theorem dX10_isEdge_5 : decode cX10_isEdge 5 = .ok (.ifCond .eq 28, 3) := by decide +kernel
theorem dX10_isEdge_8 : decode cX10_isEdge 8 = .ok (.iload_n 2, 1) := by decide +kernel
theorem dX10_isEdge_9 : decode cX10_isEdge 9 = .ok (.i2l, 1) := by decide +kernel
theorem dX10_isEdge_10 : decode cX10_isEdge 10 = .ok (.lconst 0, 1) := by decide +kernel
theorem dX10_isEdge_11 : decode cX10_isEdge 11 = .ok (.aload_n 0, 1) := by decide +kernel
theorem dX10_isEdge_12 : decode cX10_isEdge 12 = .ok (.getfield 16, 3) := by decide +kernel
theorem dX10_isEdge_15 : decode cX10_isEdge 15 = .ok (.bipush 10, 2) := by decide +kernel
theorem dX10_isEdge_17 : decode cX10_isEdge 17 = .ok (.iload_n 1, 1) := by decide +kernel
theorem dX10_isEdge_18 : decode cX10_isEdge 18 = .ok (.iadd, 1) := by decide +kernel
theorem dX10_isEdge_19 : decode cX10_isEdge 19 = .ok (.iaload, 1) := by decide +kernel
theorem dX10_isEdge_20 : decode cX10_isEdge 20 = .ok (.iconst 1, 1) := by decide +kernel
theorem dX10_isEdge_21 : decode cX10_isEdge 21 = .ok (.isub, 1) := by decide +kernel
theorem dX10_isEdge_22 : decode cX10_isEdge 22 = .ok (.i2l, 1) := by decide +kernel
theorem dX10_isEdge_23 : decode cX10_isEdge 23 = .ok (.invokestatic 57, 3) := by decide +kernel
theorem dX10_isEdge_26 : decode cX10_isEdge 26 = .ok (.ifCond .eq 7, 3) := by decide +kernel
theorem dX10_isEdge_29 : decode cX10_isEdge 29 = .ok (.iconst 1, 1) := by decide +kernel
theorem dX10_isEdge_30 : decode cX10_isEdge 30 = .ok (.goto 4, 3) := by decide +kernel
theorem dX10_isEdge_33 : decode cX10_isEdge 33 = .ok (.iconst 0, 1) := by decide +kernel
theorem dX10_isEdge_34 : decode cX10_isEdge 34 = .ok (.ireturn, 1) := by decide +kernel
theorem dX10_append_0 : decode cX10_append 0 = .ok (.iload_n 1, 1) := by decide +kernel
theorem dX10_append_1 : decode cX10_append 1 = .ok (.i2l, 1) := by decide +kernel
theorem dX10_append_2 : decode cX10_append 2 = .ok (.lconst 0, 1) := by decide +kernel
theorem dX10_append_3 : decode cX10_append 3 = .ok (.ldc2_w 65, 3) := by decide +kernel
theorem dX10_append_6 : decode cX10_append 6 = .ok (.invokestatic 57, 3) := by decide +kernel
theorem dX10_append_9 : decode cX10_append 9 = .ok (.ifCond .ne 6, 3) := by decide +kernel
theorem dX10_append_12 : decode cX10_append 12 = .ok (.bipush (-2), 2) := by decide +kernel
theorem dX10_append_14 : decode cX10_append 14 = .ok (.ireturn, 1) := by decide +kernel
theorem dX10_append_15 : decode cX10_append 15 = .ok (.aload_n 0, 1) := by decide +kernel
theorem dX10_append_16 : decode cX10_append 16 = .ok (.getfield 67, 3) := by decide +kernel
theorem dX10_append_19 : decode cX10_append 19 = .ok (.bipush 99, 2) := by decide +kernel
theorem dX10_append_21 : decode cX10_append 21 = .ok (.if_icmp .ne 6, 3) := by decide +kernel
theorem dX10_append_24 : decode cX10_append 24 = .ok (.bipush (-4), 2) := by decide +kernel
theorem dX10_append_26 : decode cX10_append 26 = .ok (.ireturn, 1) := by decide +kernel
theorem dX10_append_27 : decode cX10_append 27 = .ok (.aload_n 0, 1) := by decide +kernel
theorem dX10_append_28 : decode cX10_append 28 = .ok (.getfield 7, 3) := by decide +kernel
theorem dX10_append_31 : decode cX10_append 31 = .ok (.aload_n 0, 1) := by decide +kernel
theorem dX10_append_32 : decode cX10_append 32 = .ok (.getfield 67, 3) := by decide +kernel
theorem dX10_append_35 : decode cX10_append 35 = .ok (.iload_n 1, 1) := by decide +kernel
theorem dX10_append_36 : decode cX10_append 36 = .ok (.iastore, 1) := by decide +kernel
theorem dX10_append_37 : decode cX10_append 37 = .ok (.aload_n 0, 1) := by decide +kernel
theorem dX10_append_38 : decode cX10_append 38 = .ok (.dup, 1) := by decide +kernel
theorem dX10_append_39 : decode cX10_append 39 = .ok (.getfield 67, 3) := by decide +kernel
theorem dX10_append_42 : decode cX10_append 42 = .ok (.iconst 1, 1) := by decide +kernel
theorem dX10_append_43 : decode cX10_append 43 = .ok (.iadd, 1) := by decide +kernel
theorem dX10_append_44 : decode cX10_append 44 = .ok (.putfield 67, 3) := by decide +kernel
theorem dX10_append_47 : decode cX10_append 47 = .ok (.aload_n 0, 1) := by decide +kernel
theorem dX10_append_48 : decode cX10_append 48 = .ok (.getfield 67, 3) := by decide +kernel
theorem dX10_append_51 : decode cX10_append 51 = .ok (.ireturn, 1) := by decide +kernel
theorem dX10_clearText_0 : decode cX10_clearText 0 = .ok (.aload_n 0, 1) := by decide +kernel
theorem dX10_clearText_1 : decode cX10_clearText 1 = .ok (.getfield 67, 3) := by decide +kernel
theorem dX10_clearText_4 : decode cX10_clearText 4 = .ok (.istore_n 1, 1) := by decide +kernel
theorem dX10_clearText_5 : decode cX10_clearText 5 = .ok (.aload_n 0, 1) := by decide +kernel
theorem dX10_clearText_6 : decode cX10_clearText 6 = .ok (.iconst 0, 1) := by decide +kernel
theorem dX10_clearText_7 : decode cX10_clearText 7 = .ok (.putfield 67, 3) := by decide +kernel
theorem dX10_clearText_10 : decode cX10_clearText 10 = .ok (.iload_n 1, 1) := by decide +kernel
theorem dX10_clearText_11 : decode cX10_clearText 11 = .ok (.ireturn, 1) := by decide +kernel
theorem dX10_figure_0 : decode cX10_figure 0 = .ok (.aload_n 0, 1) := by decide +kernel
theorem dX10_figure_1 : decode cX10_figure 1 = .ok (.getfield 70, 3) := by decide +kernel
theorem dX10_figure_4 : decode cX10_figure 4 = .ok (.aload_n 0, 1) := by decide +kernel
theorem dX10_figure_5 : decode cX10_figure 5 = .ok (.getfield 67, 3) := by decide +kernel
theorem dX10_figure_8 : decode cX10_figure 8 = .ok (.if_icmp .ge 18, 3) := by decide +kernel
theorem dX10_figure_11 : decode cX10_figure 11 = .ok (.aload_n 0, 1) := by decide +kernel
theorem dX10_figure_12 : decode cX10_figure 12 = .ok (.getfield 7, 3) := by decide +kernel
theorem dX10_figure_15 : decode cX10_figure 15 = .ok (.aload_n 0, 1) := by decide +kernel
theorem dX10_figure_16 : decode cX10_figure 16 = .ok (.getfield 70, 3) := by decide +kernel
theorem dX10_figure_19 : decode cX10_figure 19 = .ok (.iaload, 1) := by decide +kernel
theorem dX10_figure_20 : decode cX10_figure 20 = .ok (.bipush 48, 2) := by decide +kernel
theorem dX10_figure_22 : decode cX10_figure 22 = .ok (.isub, 1) := by decide +kernel
theorem dX10_figure_23 : decode cX10_figure 23 = .ok (.goto 5, 3) := by decide +kernel
theorem dX10_figure_26 : decode cX10_figure 26 = .ok (.bipush (-9), 2) := by decide +kernel
theorem dX10_figure_28 : decode cX10_figure 28 = .ok (.istore_n 3, 1) := by decide +kernel
theorem dX10_figure_29 : decode cX10_figure 29 = .ok (.iload_n 3, 1) := by decide +kernel
theorem dX10_figure_30 : decode cX10_figure 30 = .ok (.i2l, 1) := by decide +kernel
theorem dX10_figure_31 : decode cX10_figure 31 = .ok (.iload_n 1, 1) := by decide +kernel
theorem dX10_figure_32 : decode cX10_figure 32 = .ok (.i2l, 1) := by decide +kernel
theorem dX10_figure_33 : decode cX10_figure 33 = .ok (.iload_n 2, 1) := by decide +kernel
theorem dX10_figure_34 : decode cX10_figure 34 = .ok (.i2l, 1) := by decide +kernel
theorem dX10_figure_35 : decode cX10_figure 35 = .ok (.invokestatic 57, 3) := by decide +kernel
theorem dX10_figure_38 : decode cX10_figure 38 = .ok (.ifCond .ne 6, 3) := by decide +kernel
theorem dX10_figure_41 : decode cX10_figure 41 = .ok (.bipush (-9), 2) := by decide +kernel
theorem dX10_figure_43 : decode cX10_figure 43 = .ok (.ireturn, 1) := by decide +kernel
theorem dX10_figure_44 : decode cX10_figure 44 = .ok (.aload_n 0, 1) := by decide +kernel
theorem dX10_figure_45 : decode cX10_figure 45 = .ok (.dup, 1) := by decide +kernel
theorem dX10_figure_46 : decode cX10_figure 46 = .ok (.getfield 70, 3) := by decide +kernel
theorem dX10_figure_49 : decode cX10_figure 49 = .ok (.iconst 1, 1) := by decide +kernel
theorem dX10_figure_50 : decode cX10_figure 50 = .ok (.iadd, 1) := by decide +kernel
theorem dX10_figure_51 : decode cX10_figure 51 = .ok (.putfield 70, 3) := by decide +kernel
theorem dX10_figure_54 : decode cX10_figure 54 = .ok (.iload_n 3, 1) := by decide +kernel
theorem dX10_figure_55 : decode cX10_figure 55 = .ok (.ireturn, 1) := by decide +kernel
theorem dX10_twoFigures_0 : decode cX10_twoFigures 0 = .ok (.aload_n 0, 1) := by decide +kernel
theorem dX10_twoFigures_1 : decode cX10_twoFigures 1 = .ok (.iconst 0, 1) := by decide +kernel
theorem dX10_twoFigures_2 : decode cX10_twoFigures 2 = .ok (.bipush 9, 2) := by decide +kernel
theorem dX10_twoFigures_4 : decode cX10_twoFigures 4 = .ok (.invokevirtual 73, 3) := by decide +kernel
theorem dX10_twoFigures_7 : decode cX10_twoFigures 7 = .ok (.istore_n 1, 1) := by decide +kernel
theorem dX10_twoFigures_8 : decode cX10_twoFigures 8 = .ok (.iload_n 1, 1) := by decide +kernel
theorem dX10_twoFigures_9 : decode cX10_twoFigures 9 = .ok (.bipush (-9), 2) := by decide +kernel
theorem dX10_twoFigures_11 : decode cX10_twoFigures 11 = .ok (.if_icmp .ne 8, 3) := by decide +kernel
theorem dX10_twoFigures_14 : decode cX10_twoFigures 14 = .ok (.bipush (-9), 2) := by decide +kernel
theorem dX10_twoFigures_16 : decode cX10_twoFigures 16 = .ok (.goto 10, 3) := by decide +kernel
theorem dX10_twoFigures_19 : decode cX10_twoFigures 19 = .ok (.aload_n 0, 1) := by decide +kernel
theorem dX10_twoFigures_20 : decode cX10_twoFigures 20 = .ok (.iconst 0, 1) := by decide +kernel
theorem dX10_twoFigures_21 : decode cX10_twoFigures 21 = .ok (.bipush 9, 2) := by decide +kernel
theorem dX10_twoFigures_23 : decode cX10_twoFigures 23 = .ok (.invokevirtual 73, 3) := by decide +kernel
theorem dX10_twoFigures_26 : decode cX10_twoFigures 26 = .ok (.istore_n 2, 1) := by decide +kernel
theorem dX10_twoFigures_27 : decode cX10_twoFigures 27 = .ok (.iload_n 2, 1) := by decide +kernel
theorem dX10_twoFigures_28 : decode cX10_twoFigures 28 = .ok (.bipush (-9), 2) := by decide +kernel
theorem dX10_twoFigures_30 : decode cX10_twoFigures 30 = .ok (.if_icmp .ne 8, 3) := by decide +kernel
theorem dX10_twoFigures_33 : decode cX10_twoFigures 33 = .ok (.bipush (-9), 2) := by decide +kernel
theorem dX10_twoFigures_35 : decode cX10_twoFigures 35 = .ok (.goto 9, 3) := by decide +kernel
theorem dX10_twoFigures_38 : decode cX10_twoFigures 38 = .ok (.bipush 10, 2) := by decide +kernel
theorem dX10_twoFigures_40 : decode cX10_twoFigures 40 = .ok (.iload_n 1, 1) := by decide +kernel
theorem dX10_twoFigures_41 : decode cX10_twoFigures 41 = .ok (.imul, 1) := by decide +kernel
theorem dX10_twoFigures_42 : decode cX10_twoFigures 42 = .ok (.iload_n 2, 1) := by decide +kernel
theorem dX10_twoFigures_43 : decode cX10_twoFigures 43 = .ok (.iadd, 1) := by decide +kernel
theorem dX10_twoFigures_44 : decode cX10_twoFigures 44 = .ok (.ireturn, 1) := by decide +kernel
theorem dX10_readSuccessor_0 : decode cX10_readSuccessor 0 = .ok (.iconst 2, 1) := by decide +kernel
theorem dX10_readSuccessor_1 : decode cX10_readSuccessor 1 = .ok (.iload_n 1, 1) := by decide +kernel
theorem dX10_readSuccessor_2 : decode cX10_readSuccessor 2 = .ok (.imul, 1) := by decide +kernel
theorem dX10_readSuccessor_3 : decode cX10_readSuccessor 3 = .ok (.iload_n 2, 1) := by decide +kernel
theorem dX10_readSuccessor_4 : decode cX10_readSuccessor 4 = .ok (.iadd, 1) := by decide +kernel
theorem dX10_readSuccessor_5 : decode cX10_readSuccessor 5 = .ok (.istore_n 3, 1) := by decide +kernel
theorem dX10_readSuccessor_6 : decode cX10_readSuccessor 6 = .ok (.aload_n 0, 1) := by decide +kernel
theorem dX10_readSuccessor_7 : decode cX10_readSuccessor 7 = .ok (.getfield 70, 3) := by decide +kernel
theorem dX10_readSuccessor_10 : decode cX10_readSuccessor 10 = .ok (.aload_n 0, 1) := by decide +kernel
theorem dX10_readSuccessor_11 : decode cX10_readSuccessor 11 = .ok (.getfield 67, 3) := by decide +kernel
theorem dX10_readSuccessor_14 : decode cX10_readSuccessor 14 = .ok (.if_icmp .ge 18, 3) := by decide +kernel
theorem dX10_readSuccessor_17 : decode cX10_readSuccessor 17 = .ok (.aload_n 0, 1) := by decide +kernel
theorem dX10_readSuccessor_18 : decode cX10_readSuccessor 18 = .ok (.getfield 7, 3) := by decide +kernel
theorem dX10_readSuccessor_21 : decode cX10_readSuccessor 21 = .ok (.aload_n 0, 1) := by decide +kernel
theorem dX10_readSuccessor_22 : decode cX10_readSuccessor 22 = .ok (.getfield 70, 3) := by decide +kernel
theorem dX10_readSuccessor_25 : decode cX10_readSuccessor 25 = .ok (.iaload, 1) := by decide +kernel
theorem dX10_readSuccessor_26 : decode cX10_readSuccessor 26 = .ok (.bipush 48, 2) := by decide +kernel
theorem dX10_readSuccessor_28 : decode cX10_readSuccessor 28 = .ok (.isub, 1) := by decide +kernel
theorem dX10_readSuccessor_29 : decode cX10_readSuccessor 29 = .ok (.goto 5, 3) := by decide +kernel
theorem dX10_readSuccessor_32 : decode cX10_readSuccessor 32 = .ok (.bipush (-9), 2) := by decide +kernel
theorem dX10_readSuccessor_34 : decode cX10_readSuccessor 34 = .ok (.istore 4, 2) := by decide +kernel
theorem dX10_readSuccessor_36 : decode cX10_readSuccessor 36 = .ok (.iload 4, 2) := by decide +kernel
theorem dX10_readSuccessor_38 : decode cX10_readSuccessor 38 = .ok (.i2l, 1) := by decide +kernel
theorem dX10_readSuccessor_39 : decode cX10_readSuccessor 39 = .ok (.lconst 0, 1) := by decide +kernel
theorem dX10_readSuccessor_40 : decode cX10_readSuccessor 40 = .ok (.aload_n 0, 1) := by decide +kernel
theorem dX10_readSuccessor_41 : decode cX10_readSuccessor 41 = .ok (.getfield 77, 3) := by decide +kernel
theorem dX10_readSuccessor_44 : decode cX10_readSuccessor 44 = .ok (.iconst 1, 1) := by decide +kernel
theorem dX10_readSuccessor_45 : decode cX10_readSuccessor 45 = .ok (.isub, 1) := by decide +kernel
theorem dX10_readSuccessor_46 : decode cX10_readSuccessor 46 = .ok (.i2l, 1) := by decide +kernel
theorem dX10_readSuccessor_47 : decode cX10_readSuccessor 47 = .ok (.invokestatic 57, 3) := by decide +kernel
theorem dX10_readSuccessor_50 : decode cX10_readSuccessor 50 = .ok (.ifCond .eq 24, 3) := by decide +kernel
theorem dX10_readSuccessor_53 : decode cX10_readSuccessor 53 = .ok (.iload_n 2, 1) := by decide +kernel
theorem dX10_readSuccessor_54 : decode cX10_readSuccessor 54 = .ok (.iconst 1, 1) := by decide +kernel
theorem dX10_readSuccessor_55 : decode cX10_readSuccessor 55 = .ok (.if_icmp .ne 21, 3) := by decide +kernel
theorem dX10_readSuccessor_58 : decode cX10_readSuccessor 58 = .ok (.iload 4, 2) := by decide +kernel
theorem dX10_readSuccessor_60 : decode cX10_readSuccessor 60 = .ok (.aload_n 0, 1) := by decide +kernel
theorem dX10_readSuccessor_61 : decode cX10_readSuccessor 61 = .ok (.getfield 38, 3) := by decide +kernel
theorem dX10_readSuccessor_64 : decode cX10_readSuccessor 64 = .ok (.bipush 18, 2) := by decide +kernel
theorem dX10_readSuccessor_66 : decode cX10_readSuccessor 66 = .ok (.iload_n 3, 1) := by decide +kernel
theorem dX10_readSuccessor_67 : decode cX10_readSuccessor 67 = .ok (.iadd, 1) := by decide +kernel
theorem dX10_readSuccessor_68 : decode cX10_readSuccessor 68 = .ok (.iconst 1, 1) := by decide +kernel
theorem dX10_readSuccessor_69 : decode cX10_readSuccessor 69 = .ok (.isub, 1) := by decide +kernel
theorem dX10_readSuccessor_70 : decode cX10_readSuccessor 70 = .ok (.iaload, 1) := by decide +kernel
theorem dX10_readSuccessor_71 : decode cX10_readSuccessor 71 = .ok (.if_icmp .ne 5, 3) := by decide +kernel
theorem dX10_readSuccessor_74 : decode cX10_readSuccessor 74 = .ok (.iconst 0, 1) := by decide +kernel
theorem dX10_readSuccessor_75 : decode cX10_readSuccessor 75 = .ok (.ireturn, 1) := by decide +kernel
theorem dX10_readSuccessor_76 : decode cX10_readSuccessor 76 = .ok (.aload_n 0, 1) := by decide +kernel
theorem dX10_readSuccessor_77 : decode cX10_readSuccessor 77 = .ok (.dup, 1) := by decide +kernel
theorem dX10_readSuccessor_78 : decode cX10_readSuccessor 78 = .ok (.getfield 70, 3) := by decide +kernel
theorem dX10_readSuccessor_81 : decode cX10_readSuccessor 81 = .ok (.iconst 1, 1) := by decide +kernel
theorem dX10_readSuccessor_82 : decode cX10_readSuccessor 82 = .ok (.iadd, 1) := by decide +kernel
theorem dX10_readSuccessor_83 : decode cX10_readSuccessor 83 = .ok (.putfield 70, 3) := by decide +kernel
theorem dX10_readSuccessor_86 : decode cX10_readSuccessor 86 = .ok (.aload_n 0, 1) := by decide +kernel
theorem dX10_readSuccessor_87 : decode cX10_readSuccessor 87 = .ok (.getfield 38, 3) := by decide +kernel
theorem dX10_readSuccessor_90 : decode cX10_readSuccessor 90 = .ok (.bipush 18, 2) := by decide +kernel
theorem dX10_readSuccessor_92 : decode cX10_readSuccessor 92 = .ok (.iload_n 3, 1) := by decide +kernel
theorem dX10_readSuccessor_93 : decode cX10_readSuccessor 93 = .ok (.iadd, 1) := by decide +kernel
theorem dX10_readSuccessor_94 : decode cX10_readSuccessor 94 = .ok (.iload 4, 2) := by decide +kernel
theorem dX10_readSuccessor_96 : decode cX10_readSuccessor 96 = .ok (.iastore, 1) := by decide +kernel
theorem dX10_readSuccessor_97 : decode cX10_readSuccessor 97 = .ok (.aload_n 0, 1) := by decide +kernel
theorem dX10_readSuccessor_98 : decode cX10_readSuccessor 98 = .ok (.getfield 38, 3) := by decide +kernel
theorem dX10_readSuccessor_101 : decode cX10_readSuccessor 101 = .ok (.bipush 34, 2) := by decide +kernel
theorem dX10_readSuccessor_103 : decode cX10_readSuccessor 103 = .ok (.iload_n 3, 1) := by decide +kernel
theorem dX10_readSuccessor_104 : decode cX10_readSuccessor 104 = .ok (.iadd, 1) := by decide +kernel
theorem dX10_readSuccessor_105 : decode cX10_readSuccessor 105 = .ok (.aload_n 0, 1) := by decide +kernel
theorem dX10_readSuccessor_106 : decode cX10_readSuccessor 106 = .ok (.invokevirtual 80, 3) := by decide +kernel
theorem dX10_readSuccessor_109 : decode cX10_readSuccessor 109 = .ok (.iastore, 1) := by decide +kernel
theorem dX10_readSuccessor_110 : decode cX10_readSuccessor 110 = .ok (.aload_n 0, 1) := by decide +kernel
theorem dX10_readSuccessor_111 : decode cX10_readSuccessor 111 = .ok (.getfield 38, 3) := by decide +kernel
theorem dX10_readSuccessor_114 : decode cX10_readSuccessor 114 = .ok (.bipush 34, 2) := by decide +kernel
theorem dX10_readSuccessor_116 : decode cX10_readSuccessor 116 = .ok (.iload_n 3, 1) := by decide +kernel
theorem dX10_readSuccessor_117 : decode cX10_readSuccessor 117 = .ok (.iadd, 1) := by decide +kernel
theorem dX10_readSuccessor_118 : decode cX10_readSuccessor 118 = .ok (.iaload, 1) := by decide +kernel
theorem dX10_readSuccessor_119 : decode cX10_readSuccessor 119 = .ok (.bipush (-9), 2) := by decide +kernel
theorem dX10_readSuccessor_121 : decode cX10_readSuccessor 121 = .ok (.if_icmp .eq 7, 3) := by decide +kernel
theorem dX10_readSuccessor_124 : decode cX10_readSuccessor 124 = .ok (.iconst 1, 1) := by decide +kernel
theorem dX10_readSuccessor_125 : decode cX10_readSuccessor 125 = .ok (.goto 4, 3) := by decide +kernel
theorem dX10_readSuccessor_128 : decode cX10_readSuccessor 128 = .ok (.iconst 0, 1) := by decide +kernel
theorem dX10_readSuccessor_129 : decode cX10_readSuccessor 129 = .ok (.ireturn, 1) := by decide +kernel
theorem dX10_readBlock_0 : decode cX10_readBlock 0 = .ok (.aload_n 0, 1) := by decide +kernel
theorem dX10_readBlock_1 : decode cX10_readBlock 1 = .ok (.getfield 35, 3) := by decide +kernel
theorem dX10_readBlock_4 : decode cX10_readBlock 4 = .ok (.iload_n 1, 1) := by decide +kernel
theorem dX10_readBlock_5 : decode cX10_readBlock 5 = .ok (.aload_n 0, 1) := by decide +kernel
theorem dX10_readBlock_6 : decode cX10_readBlock 6 = .ok (.iconst 0, 1) := by decide +kernel
theorem dX10_readBlock_7 : decode cX10_readBlock 7 = .ok (.bipush 9, 2) := by decide +kernel
theorem dX10_readBlock_9 : decode cX10_readBlock 9 = .ok (.invokevirtual 73, 3) := by decide +kernel
theorem dX10_readBlock_12 : decode cX10_readBlock 12 = .ok (.iastore, 1) := by decide +kernel
theorem dX10_readBlock_13 : decode cX10_readBlock 13 = .ok (.aload_n 0, 1) := by decide +kernel
theorem dX10_readBlock_14 : decode cX10_readBlock 14 = .ok (.getfield 35, 3) := by decide +kernel
theorem dX10_readBlock_17 : decode cX10_readBlock 17 = .ok (.iload_n 1, 1) := by decide +kernel
theorem dX10_readBlock_18 : decode cX10_readBlock 18 = .ok (.iaload, 1) := by decide +kernel
theorem dX10_readBlock_19 : decode cX10_readBlock 19 = .ok (.bipush (-9), 2) := by decide +kernel
theorem dX10_readBlock_21 : decode cX10_readBlock 21 = .ok (.if_icmp .ne 8, 3) := by decide +kernel
theorem dX10_readBlock_24 : decode cX10_readBlock 24 = .ok (.bipush (-9), 2) := by decide +kernel
theorem dX10_readBlock_26 : decode cX10_readBlock 26 = .ok (.goto 21, 3) := by decide +kernel
theorem dX10_readBlock_29 : decode cX10_readBlock 29 = .ok (.aload_n 0, 1) := by decide +kernel
theorem dX10_readBlock_30 : decode cX10_readBlock 30 = .ok (.iconst 0, 1) := by decide +kernel
theorem dX10_readBlock_31 : decode cX10_readBlock 31 = .ok (.aload_n 0, 1) := by decide +kernel
theorem dX10_readBlock_32 : decode cX10_readBlock 32 = .ok (.getfield 77, 3) := by decide +kernel
theorem dX10_readBlock_35 : decode cX10_readBlock 35 = .ok (.iconst 1, 1) := by decide +kernel
theorem dX10_readBlock_36 : decode cX10_readBlock 36 = .ok (.if_icmp .ne 7, 3) := by decide +kernel
theorem dX10_readBlock_39 : decode cX10_readBlock 39 = .ok (.iconst 1, 1) := by decide +kernel
theorem dX10_readBlock_40 : decode cX10_readBlock 40 = .ok (.goto 4, 3) := by decide +kernel
theorem dX10_readBlock_43 : decode cX10_readBlock 43 = .ok (.iconst 2, 1) := by decide +kernel
theorem dX10_readBlock_44 : decode cX10_readBlock 44 = .ok (.invokevirtual 73, 3) := by decide +kernel
theorem dX10_readBlock_47 : decode cX10_readBlock 47 = .ok (.istore_n 2, 1) := by decide +kernel
theorem dX10_readBlock_48 : decode cX10_readBlock 48 = .ok (.aload_n 0, 1) := by decide +kernel
theorem dX10_readBlock_49 : decode cX10_readBlock 49 = .ok (.getfield 38, 3) := by decide +kernel
theorem dX10_readBlock_52 : decode cX10_readBlock 52 = .ok (.bipush 10, 2) := by decide +kernel
theorem dX10_readBlock_54 : decode cX10_readBlock 54 = .ok (.iload_n 1, 1) := by decide +kernel
theorem dX10_readBlock_55 : decode cX10_readBlock 55 = .ok (.iadd, 1) := by decide +kernel
theorem dX10_readBlock_56 : decode cX10_readBlock 56 = .ok (.iload_n 2, 1) := by decide +kernel
theorem dX10_readBlock_57 : decode cX10_readBlock 57 = .ok (.iastore, 1) := by decide +kernel
theorem dX10_readBlock_58 : decode cX10_readBlock 58 = .ok (.iload_n 2, 1) := by decide +kernel
theorem dX10_readBlock_59 : decode cX10_readBlock 59 = .ok (.bipush (-9), 2) := by decide +kernel
theorem dX10_readBlock_61 : decode cX10_readBlock 61 = .ok (.if_icmp .eq 7, 3) := by decide +kernel
theorem dX10_readBlock_64 : decode cX10_readBlock 64 = .ok (.iconst 1, 1) := by decide +kernel
theorem dX10_readBlock_65 : decode cX10_readBlock 65 = .ok (.goto 4, 3) := by decide +kernel
theorem dX10_readBlock_68 : decode cX10_readBlock 68 = .ok (.iconst 0, 1) := by decide +kernel
theorem dX10_readBlock_69 : decode cX10_readBlock 69 = .ok (.istore_n 3, 1) := by decide +kernel
theorem dX10_readBlock_70 : decode cX10_readBlock 70 = .ok (.iconst 0, 1) := by decide +kernel
theorem dX10_readBlock_71 : decode cX10_readBlock 71 = .ok (.istore 4, 2) := by decide +kernel
theorem dX10_readBlock_73 : decode cX10_readBlock 73 = .ok (.iload 4, 2) := by decide +kernel
theorem dX10_readBlock_75 : decode cX10_readBlock 75 = .ok (.iload_n 2, 1) := by decide +kernel
theorem dX10_readBlock_76 : decode cX10_readBlock 76 = .ok (.if_icmp .ge 21, 3) := by decide +kernel
theorem dX10_readBlock_79 : decode cX10_readBlock 79 = .ok (.iload_n 3, 1) := by decide +kernel
theorem dX10_readBlock_80 : decode cX10_readBlock 80 = .ok (.ifCond .eq 17, 3) := by decide +kernel
theorem dX10_readBlock_83 : decode cX10_readBlock 83 = .ok (.aload_n 0, 1) := by decide +kernel
theorem dX10_readBlock_84 : decode cX10_readBlock 84 = .ok (.iload_n 1, 1) := by decide +kernel
theorem dX10_readBlock_85 : decode cX10_readBlock 85 = .ok (.iload 4, 2) := by decide +kernel
theorem dX10_readBlock_87 : decode cX10_readBlock 87 = .ok (.invokevirtual 84, 3) := by decide +kernel
theorem dX10_readBlock_90 : decode cX10_readBlock 90 = .ok (.istore_n 3, 1) := by decide +kernel
theorem dX10_readBlock_91 : decode cX10_readBlock 91 = .ok (.iinc 4 1, 3) := by decide +kernel
theorem dX10_readBlock_94 : decode cX10_readBlock 94 = .ok (.goto (-21), 3) := by decide +kernel
theorem dX10_readBlock_97 : decode cX10_readBlock 97 = .ok (.iload_n 3, 1) := by decide +kernel
theorem dX10_readBlock_98 : decode cX10_readBlock 98 = .ok (.ireturn, 1) := by decide +kernel
theorem dX10_readText_0 : decode cX10_readText 0 = .ok (.iconst 0, 1) := by decide +kernel
theorem dX10_readText_1 : decode cX10_readText 1 = .ok (.istore_n 1, 1) := by decide +kernel
theorem dX10_readText_2 : decode cX10_readText 2 = .ok (.iload_n 1, 1) := by decide +kernel
theorem dX10_readText_3 : decode cX10_readText 3 = .ok (.bipush 50, 2) := by decide +kernel
theorem dX10_readText_5 : decode cX10_readText 5 = .ok (.if_icmp .ge 16, 3) := by decide +kernel
theorem dX10_readText_8 : decode cX10_readText 8 = .ok (.aload_n 0, 1) := by decide +kernel
theorem dX10_readText_9 : decode cX10_readText 9 = .ok (.getfield 38, 3) := by decide +kernel
theorem dX10_readText_12 : decode cX10_readText 12 = .ok (.iload_n 1, 1) := by decide +kernel
theorem dX10_readText_13 : decode cX10_readText 13 = .ok (.iconst 0, 1) := by decide +kernel
theorem dX10_readText_14 : decode cX10_readText 14 = .ok (.iastore, 1) := by decide +kernel
theorem dX10_readText_15 : decode cX10_readText 15 = .ok (.iinc 1 1, 3) := by decide +kernel
theorem dX10_readText_18 : decode cX10_readText 18 = .ok (.goto (-16), 3) := by decide +kernel
theorem dX10_readText_21 : decode cX10_readText 21 = .ok (.aload_n 0, 1) := by decide +kernel
theorem dX10_readText_22 : decode cX10_readText 22 = .ok (.getfield 67, 3) := by decide +kernel
theorem dX10_readText_25 : decode cX10_readText 25 = .ok (.ifCond .eq 14, 3) := by decide +kernel
theorem dX10_readText_28 : decode cX10_readText 28 = .ok (.aload_n 0, 1) := by decide +kernel
theorem dX10_readText_29 : decode cX10_readText 29 = .ok (.getfield 7, 3) := by decide +kernel
theorem dX10_readText_32 : decode cX10_readText 32 = .ok (.iconst 0, 1) := by decide +kernel
theorem dX10_readText_33 : decode cX10_readText 33 = .ok (.iaload, 1) := by decide +kernel
theorem dX10_readText_34 : decode cX10_readText 34 = .ok (.bipush 66, 2) := by decide +kernel
theorem dX10_readText_36 : decode cX10_readText 36 = .ok (.if_icmp .eq 5, 3) := by decide +kernel
theorem dX10_readText_39 : decode cX10_readText 39 = .ok (.iconst 0, 1) := by decide +kernel
theorem dX10_readText_40 : decode cX10_readText 40 = .ok (.ireturn, 1) := by decide +kernel
theorem dX10_readText_41 : decode cX10_readText 41 = .ok (.aload_n 0, 1) := by decide +kernel
theorem dX10_readText_42 : decode cX10_readText 42 = .ok (.iconst 1, 1) := by decide +kernel
theorem dX10_readText_43 : decode cX10_readText 43 = .ok (.putfield 70, 3) := by decide +kernel
theorem dX10_readText_46 : decode cX10_readText 46 = .ok (.aload_n 0, 1) := by decide +kernel
theorem dX10_readText_47 : decode cX10_readText 47 = .ok (.aload_n 0, 1) := by decide +kernel
theorem dX10_readText_48 : decode cX10_readText 48 = .ok (.iconst 1, 1) := by decide +kernel
theorem dX10_readText_49 : decode cX10_readText 49 = .ok (.bipush 8, 2) := by decide +kernel
theorem dX10_readText_51 : decode cX10_readText 51 = .ok (.invokevirtual 73, 3) := by decide +kernel
theorem dX10_readText_54 : decode cX10_readText 54 = .ok (.putfield 77, 3) := by decide +kernel
theorem dX10_readText_57 : decode cX10_readText 57 = .ok (.aload_n 0, 1) := by decide +kernel
theorem dX10_readText_58 : decode cX10_readText 58 = .ok (.aload_n 0, 1) := by decide +kernel
theorem dX10_readText_59 : decode cX10_readText 59 = .ok (.getfield 77, 3) := by decide +kernel
theorem dX10_readText_62 : decode cX10_readText 62 = .ok (.bipush (-9), 2) := by decide +kernel
theorem dX10_readText_64 : decode cX10_readText 64 = .ok (.if_icmp .ne 8, 3) := by decide +kernel
theorem dX10_readText_67 : decode cX10_readText 67 = .ok (.bipush (-9), 2) := by decide +kernel
theorem dX10_readText_69 : decode cX10_readText 69 = .ok (.goto 7, 3) := by decide +kernel
theorem dX10_readText_72 : decode cX10_readText 72 = .ok (.aload_n 0, 1) := by decide +kernel
theorem dX10_readText_73 : decode cX10_readText 73 = .ok (.invokevirtual 80, 3) := by decide +kernel
theorem dX10_readText_76 : decode cX10_readText 76 = .ok (.putfield 88, 3) := by decide +kernel
theorem dX10_readText_79 : decode cX10_readText 79 = .ok (.aload_n 0, 1) := by decide +kernel
theorem dX10_readText_80 : decode cX10_readText 80 = .ok (.getfield 88, 3) := by decide +kernel
theorem dX10_readText_83 : decode cX10_readText 83 = .ok (.bipush (-9), 2) := by decide +kernel
theorem dX10_readText_85 : decode cX10_readText 85 = .ok (.if_icmp .ne 8, 3) := by decide +kernel
theorem dX10_readText_88 : decode cX10_readText 88 = .ok (.aload_n 0, 1) := by decide +kernel
theorem dX10_readText_89 : decode cX10_readText 89 = .ok (.getfield 70, 3) := by decide +kernel
theorem dX10_readText_92 : decode cX10_readText 92 = .ok (.ireturn, 1) := by decide +kernel
theorem dX10_readText_93 : decode cX10_readText 93 = .ok (.iconst 0, 1) := by decide +kernel
theorem dX10_readText_94 : decode cX10_readText 94 = .ok (.istore_n 1, 1) := by decide +kernel
theorem dX10_readText_95 : decode cX10_readText 95 = .ok (.iload_n 1, 1) := by decide +kernel
theorem dX10_readText_96 : decode cX10_readText 96 = .ok (.aload_n 0, 1) := by decide +kernel
theorem dX10_readText_97 : decode cX10_readText 97 = .ok (.getfield 77, 3) := by decide +kernel
theorem dX10_readText_100 : decode cX10_readText 100 = .ok (.if_icmp .ge 22, 3) := by decide +kernel
theorem dX10_readText_103 : decode cX10_readText 103 = .ok (.aload_n 0, 1) := by decide +kernel
theorem dX10_readText_104 : decode cX10_readText 104 = .ok (.iload_n 1, 1) := by decide +kernel
theorem dX10_readText_105 : decode cX10_readText 105 = .ok (.invokevirtual 91, 3) := by decide +kernel
theorem dX10_readText_108 : decode cX10_readText 108 = .ok (.ifCond .ne 8, 3) := by decide +kernel
theorem dX10_readText_111 : decode cX10_readText 111 = .ok (.aload_n 0, 1) := by decide +kernel
theorem dX10_readText_112 : decode cX10_readText 112 = .ok (.getfield 70, 3) := by decide +kernel
theorem dX10_readText_115 : decode cX10_readText 115 = .ok (.ireturn, 1) := by decide +kernel
theorem dX10_readText_116 : decode cX10_readText 116 = .ok (.iinc 1 1, 3) := by decide +kernel
theorem dX10_readText_119 : decode cX10_readText 119 = .ok (.goto (-24), 3) := by decide +kernel
theorem dX10_readText_122 : decode cX10_readText 122 = .ok (.aload_n 0, 1) := by decide +kernel
theorem dX10_readText_123 : decode cX10_readText 123 = .ok (.getfield 70, 3) := by decide +kernel
theorem dX10_readText_126 : decode cX10_readText 126 = .ok (.aload_n 0, 1) := by decide +kernel
theorem dX10_readText_127 : decode cX10_readText 127 = .ok (.getfield 67, 3) := by decide +kernel
theorem dX10_readText_130 : decode cX10_readText 130 = .ok (.if_icmp .ge 10, 3) := by decide +kernel
theorem dX10_readText_133 : decode cX10_readText 133 = .ok (.aload_n 0, 1) := by decide +kernel
theorem dX10_readText_134 : decode cX10_readText 134 = .ok (.getfield 70, 3) := by decide +kernel
theorem dX10_readText_137 : decode cX10_readText 137 = .ok (.goto 5, 3) := by decide +kernel
theorem dX10_readText_140 : decode cX10_readText 140 = .ok (.bipush (-9), 2) := by decide +kernel
theorem dX10_readText_142 : decode cX10_readText 142 = .ok (.ireturn, 1) := by decide +kernel
theorem dX10_errorPosition_0 : decode cX10_errorPosition 0 = .ok (.aload_n 0, 1) := by decide +kernel
theorem dX10_errorPosition_1 : decode cX10_errorPosition 1 = .ok (.invokevirtual 94, 3) := by decide +kernel
theorem dX10_errorPosition_4 : decode cX10_errorPosition 4 = .ok (.ireturn, 1) := by decide +kernel
theorem dX10_load_0 : decode cX10_load 0 = .ok (.aload_n 0, 1) := by decide +kernel
theorem dX10_load_1 : decode cX10_load 1 = .ok (.invokevirtual 94, 3) := by decide +kernel
theorem dX10_load_4 : decode cX10_load 4 = .ok (.bipush (-9), 2) := by decide +kernel
theorem dX10_load_6 : decode cX10_load 6 = .ok (.if_icmp .eq 6, 3) := by decide +kernel
theorem dX10_load_9 : decode cX10_load 9 = .ok (.bipush (-3), 2) := by decide +kernel
theorem dX10_load_11 : decode cX10_load 11 = .ok (.ireturn, 1) := by decide +kernel
theorem dX10_load_12 : decode cX10_load 12 = .ok (.aload_n 0, 1) := by decide +kernel
theorem dX10_load_13 : decode cX10_load 13 = .ok (.aload_n 0, 1) := by decide +kernel
theorem dX10_load_14 : decode cX10_load 14 = .ok (.getfield 77, 3) := by decide +kernel
theorem dX10_load_17 : decode cX10_load 17 = .ok (.putfield 53, 3) := by decide +kernel
theorem dX10_load_20 : decode cX10_load 20 = .ok (.aload_n 0, 1) := by decide +kernel
theorem dX10_load_21 : decode cX10_load 21 = .ok (.aload_n 0, 1) := by decide +kernel
theorem dX10_load_22 : decode cX10_load 22 = .ok (.getfield 88, 3) := by decide +kernel
theorem dX10_load_25 : decode cX10_load 25 = .ok (.putfield 97, 3) := by decide +kernel
theorem dX10_load_28 : decode cX10_load 28 = .ok (.aload_n 0, 1) := by decide +kernel
theorem dX10_load_29 : decode cX10_load 29 = .ok (.getfield 38, 3) := by decide +kernel
theorem dX10_load_32 : decode cX10_load 32 = .ok (.aload_n 0, 1) := by decide +kernel
theorem dX10_load_33 : decode cX10_load 33 = .ok (.getfield 16, 3) := by decide +kernel
theorem dX10_load_36 : decode cX10_load 36 = .ok (.invokestatic 100, 3) := by decide +kernel
theorem dX10_load_39 : decode cX10_load 39 = .ok (.aload_n 0, 1) := by decide +kernel
theorem dX10_load_40 : decode cX10_load 40 = .ok (.getfield 16, 3) := by decide +kernel
theorem dX10_load_43 : decode cX10_load 43 = .ok (.iconst 0, 1) := by decide +kernel
theorem dX10_load_44 : decode cX10_load 44 = .ok (.aload_n 0, 1) := by decide +kernel
theorem dX10_load_45 : decode cX10_load 45 = .ok (.getfield 53, 3) := by decide +kernel
theorem dX10_load_48 : decode cX10_load 48 = .ok (.iastore, 1) := by decide +kernel
theorem dX10_load_49 : decode cX10_load 49 = .ok (.aload_n 0, 1) := by decide +kernel
theorem dX10_load_50 : decode cX10_load 50 = .ok (.getfield 16, 3) := by decide +kernel
theorem dX10_load_53 : decode cX10_load 53 = .ok (.iconst 1, 1) := by decide +kernel
theorem dX10_load_54 : decode cX10_load 54 = .ok (.iconst 1, 1) := by decide +kernel
theorem dX10_load_55 : decode cX10_load 55 = .ok (.iastore, 1) := by decide +kernel
theorem dX10_load_56 : decode cX10_load 56 = .ok (.iconst 0, 1) := by decide +kernel
theorem dX10_load_57 : decode cX10_load 57 = .ok (.istore_n 1, 1) := by decide +kernel
theorem dX10_load_58 : decode cX10_load 58 = .ok (.iload_n 1, 1) := by decide +kernel
theorem dX10_load_59 : decode cX10_load 59 = .ok (.aload_n 0, 1) := by decide +kernel
theorem dX10_load_60 : decode cX10_load 60 = .ok (.getfield 53, 3) := by decide +kernel
theorem dX10_load_63 : decode cX10_load 63 = .ok (.if_icmp .ge 30, 3) := by decide +kernel
theorem dX10_load_66 : decode cX10_load 66 = .ok (.aload_n 0, 1) := by decide +kernel
theorem dX10_load_67 : decode cX10_load 67 = .ok (.getfield 13, 3) := by decide +kernel
theorem dX10_load_70 : decode cX10_load 70 = .ok (.iload_n 1, 1) := by decide +kernel
theorem dX10_load_71 : decode cX10_load 71 = .ok (.aload_n 0, 1) := by decide +kernel
theorem dX10_load_72 : decode cX10_load 72 = .ok (.getfield 35, 3) := by decide +kernel
theorem dX10_load_75 : decode cX10_load 75 = .ok (.iload_n 1, 1) := by decide +kernel
theorem dX10_load_76 : decode cX10_load 76 = .ok (.iaload, 1) := by decide +kernel
theorem dX10_load_77 : decode cX10_load 77 = .ok (.iastore, 1) := by decide +kernel
theorem dX10_load_78 : decode cX10_load 78 = .ok (.aload_n 0, 1) := by decide +kernel
theorem dX10_load_79 : decode cX10_load 79 = .ok (.getfield 16, 3) := by decide +kernel
theorem dX10_load_82 : decode cX10_load 82 = .ok (.iconst 2, 1) := by decide +kernel
theorem dX10_load_83 : decode cX10_load 83 = .ok (.iload_n 1, 1) := by decide +kernel
theorem dX10_load_84 : decode cX10_load 84 = .ok (.iadd, 1) := by decide +kernel
theorem dX10_load_85 : decode cX10_load 85 = .ok (.iload_n 1, 1) := by decide +kernel
theorem dX10_load_86 : decode cX10_load 86 = .ok (.iastore, 1) := by decide +kernel
theorem dX10_load_87 : decode cX10_load 87 = .ok (.iinc 1 1, 3) := by decide +kernel
theorem dX10_load_90 : decode cX10_load 90 = .ok (.goto (-32), 3) := by decide +kernel
theorem dX10_load_93 : decode cX10_load 93 = .ok (.aload_n 0, 1) := by decide +kernel
theorem dX10_load_94 : decode cX10_load 94 = .ok (.iconst 0, 1) := by decide +kernel
theorem dX10_load_95 : decode cX10_load 95 = .ok (.putfield 104, 3) := by decide +kernel
theorem dX10_load_98 : decode cX10_load 98 = .ok (.aload_n 0, 1) := by decide +kernel
theorem dX10_load_99 : decode cX10_load 99 = .ok (.getfield 31, 3) := by decide +kernel
theorem dX10_load_102 : decode cX10_load 102 = .ok (.iconst 0, 1) := by decide +kernel
theorem dX10_load_103 : decode cX10_load 103 = .ok (.iconst 0, 1) := by decide +kernel
theorem dX10_load_104 : decode cX10_load 104 = .ok (.bastore, 1) := by decide +kernel
theorem dX10_load_105 : decode cX10_load 105 = .ok (.aload_n 0, 1) := by decide +kernel
theorem dX10_load_106 : decode cX10_load 106 = .ok (.getfield 31, 3) := by decide +kernel
theorem dX10_load_109 : decode cX10_load 109 = .ok (.iconst 1, 1) := by decide +kernel
theorem dX10_load_110 : decode cX10_load 110 = .ok (.iconst 0, 1) := by decide +kernel
theorem dX10_load_111 : decode cX10_load 111 = .ok (.bastore, 1) := by decide +kernel
theorem dX10_load_112 : decode cX10_load 112 = .ok (.aload_n 0, 1) := by decide +kernel
theorem dX10_load_113 : decode cX10_load 113 = .ok (.getfield 53, 3) := by decide +kernel
theorem dX10_load_116 : decode cX10_load 116 = .ok (.ireturn, 1) := by decide +kernel
theorem dX10_blockCount_0 : decode cX10_blockCount 0 = .ok (.aload_n 0, 1) := by decide +kernel
theorem dX10_blockCount_1 : decode cX10_blockCount 1 = .ok (.getfield 53, 3) := by decide +kernel
theorem dX10_blockCount_4 : decode cX10_blockCount 4 = .ok (.ireturn, 1) := by decide +kernel
theorem dX10_size_0 : decode cX10_size 0 = .ok (.aload_n 0, 1) := by decide +kernel
theorem dX10_size_1 : decode cX10_size 1 = .ok (.iload_n 1, 1) := by decide +kernel
theorem dX10_size_2 : decode cX10_size 2 = .ok (.invokevirtual 61, 3) := by decide +kernel
theorem dX10_size_5 : decode cX10_size 5 = .ok (.ifCond .eq 12, 3) := by decide +kernel
theorem dX10_size_8 : decode cX10_size 8 = .ok (.aload_n 0, 1) := by decide +kernel
theorem dX10_size_9 : decode cX10_size 9 = .ok (.getfield 13, 3) := by decide +kernel
theorem dX10_size_12 : decode cX10_size 12 = .ok (.iload_n 1, 1) := by decide +kernel
theorem dX10_size_13 : decode cX10_size 13 = .ok (.iaload, 1) := by decide +kernel
theorem dX10_size_14 : decode cX10_size 14 = .ok (.goto 4, 3) := by decide +kernel
theorem dX10_size_17 : decode cX10_size 17 = .ok (.iconst (-1), 1) := by decide +kernel
theorem dX10_size_18 : decode cX10_size 18 = .ok (.ireturn, 1) := by decide +kernel
theorem dX10_successor_0 : decode cX10_successor 0 = .ok (.aload_n 0, 1) := by decide +kernel
theorem dX10_successor_1 : decode cX10_successor 1 = .ok (.iload_n 1, 1) := by decide +kernel
theorem dX10_successor_2 : decode cX10_successor 2 = .ok (.iload_n 2, 1) := by decide +kernel
theorem dX10_successor_3 : decode cX10_successor 3 = .ok (.invokevirtual 107, 3) := by decide +kernel
theorem dX10_successor_6 : decode cX10_successor 6 = .ok (.ifCond .eq 19, 3) := by decide +kernel
theorem dX10_successor_9 : decode cX10_successor 9 = .ok (.aload_n 0, 1) := by decide +kernel
theorem dX10_successor_10 : decode cX10_successor 10 = .ok (.getfield 16, 3) := by decide +kernel
theorem dX10_successor_13 : decode cX10_successor 13 = .ok (.bipush 18, 2) := by decide +kernel
theorem dX10_successor_15 : decode cX10_successor 15 = .ok (.iconst 2, 1) := by decide +kernel
theorem dX10_successor_16 : decode cX10_successor 16 = .ok (.iload_n 1, 1) := by decide +kernel
theorem dX10_successor_17 : decode cX10_successor 17 = .ok (.imul, 1) := by decide +kernel
theorem dX10_successor_18 : decode cX10_successor 18 = .ok (.iadd, 1) := by decide +kernel
theorem dX10_successor_19 : decode cX10_successor 19 = .ok (.iload_n 2, 1) := by decide +kernel
theorem dX10_successor_20 : decode cX10_successor 20 = .ok (.iadd, 1) := by decide +kernel
theorem dX10_successor_21 : decode cX10_successor 21 = .ok (.iaload, 1) := by decide +kernel
theorem dX10_successor_22 : decode cX10_successor 22 = .ok (.goto 4, 3) := by decide +kernel
theorem dX10_successor_25 : decode cX10_successor 25 = .ok (.iconst (-1), 1) := by decide +kernel
theorem dX10_successor_26 : decode cX10_successor 26 = .ok (.ireturn, 1) := by decide +kernel
theorem dX10_edgeCount_0 : decode cX10_edgeCount 0 = .ok (.aload_n 0, 1) := by decide +kernel
theorem dX10_edgeCount_1 : decode cX10_edgeCount 1 = .ok (.iload_n 1, 1) := by decide +kernel
theorem dX10_edgeCount_2 : decode cX10_edgeCount 2 = .ok (.iload_n 2, 1) := by decide +kernel
theorem dX10_edgeCount_3 : decode cX10_edgeCount 3 = .ok (.invokevirtual 107, 3) := by decide +kernel
theorem dX10_edgeCount_6 : decode cX10_edgeCount 6 = .ok (.ifCond .eq 19, 3) := by decide +kernel
theorem dX10_edgeCount_9 : decode cX10_edgeCount 9 = .ok (.aload_n 0, 1) := by decide +kernel
theorem dX10_edgeCount_10 : decode cX10_edgeCount 10 = .ok (.getfield 16, 3) := by decide +kernel
theorem dX10_edgeCount_13 : decode cX10_edgeCount 13 = .ok (.bipush 34, 2) := by decide +kernel
theorem dX10_edgeCount_15 : decode cX10_edgeCount 15 = .ok (.iconst 2, 1) := by decide +kernel
theorem dX10_edgeCount_16 : decode cX10_edgeCount 16 = .ok (.iload_n 1, 1) := by decide +kernel
theorem dX10_edgeCount_17 : decode cX10_edgeCount 17 = .ok (.imul, 1) := by decide +kernel
theorem dX10_edgeCount_18 : decode cX10_edgeCount 18 = .ok (.iadd, 1) := by decide +kernel
theorem dX10_edgeCount_19 : decode cX10_edgeCount 19 = .ok (.iload_n 2, 1) := by decide +kernel
theorem dX10_edgeCount_20 : decode cX10_edgeCount 20 = .ok (.iadd, 1) := by decide +kernel
theorem dX10_edgeCount_21 : decode cX10_edgeCount 21 = .ok (.iaload, 1) := by decide +kernel
theorem dX10_edgeCount_22 : decode cX10_edgeCount 22 = .ok (.goto 4, 3) := by decide +kernel
theorem dX10_edgeCount_25 : decode cX10_edgeCount 25 = .ok (.iconst (-1), 1) := by decide +kernel
theorem dX10_edgeCount_26 : decode cX10_edgeCount 26 = .ok (.ireturn, 1) := by decide +kernel
theorem dX10_executionsOf_0 : decode cX10_executionsOf 0 = .ok (.iload_n 2, 1) := by decide +kernel
theorem dX10_executionsOf_1 : decode cX10_executionsOf 1 = .ok (.ifCond .ne 10, 3) := by decide +kernel
theorem dX10_executionsOf_4 : decode cX10_executionsOf 4 = .ok (.aload_n 0, 1) := by decide +kernel
theorem dX10_executionsOf_5 : decode cX10_executionsOf 5 = .ok (.getfield 97, 3) := by decide +kernel
theorem dX10_executionsOf_8 : decode cX10_executionsOf 8 = .ok (.goto 4, 3) := by decide +kernel
theorem dX10_executionsOf_11 : decode cX10_executionsOf 11 = .ok (.iconst 0, 1) := by decide +kernel
theorem dX10_executionsOf_12 : decode cX10_executionsOf 12 = .ok (.istore_n 3, 1) := by decide +kernel
theorem dX10_executionsOf_13 : decode cX10_executionsOf 13 = .ok (.iconst 0, 1) := by decide +kernel
theorem dX10_executionsOf_14 : decode cX10_executionsOf 14 = .ok (.istore 4, 2) := by decide +kernel
theorem dX10_executionsOf_16 : decode cX10_executionsOf 16 = .ok (.iload 4, 2) := by decide +kernel
theorem dX10_executionsOf_18 : decode cX10_executionsOf 18 = .ok (.aload_n 0, 1) := by decide +kernel
theorem dX10_executionsOf_19 : decode cX10_executionsOf 19 = .ok (.getfield 53, 3) := by decide +kernel
theorem dX10_executionsOf_22 : decode cX10_executionsOf 22 = .ok (.if_icmp .ge 65, 3) := by decide +kernel
theorem dX10_executionsOf_25 : decode cX10_executionsOf 25 = .ok (.iconst 0, 1) := by decide +kernel
theorem dX10_executionsOf_26 : decode cX10_executionsOf 26 = .ok (.istore 5, 2) := by decide +kernel
theorem dX10_executionsOf_28 : decode cX10_executionsOf 28 = .ok (.iload 5, 2) := by decide +kernel
theorem dX10_executionsOf_30 : decode cX10_executionsOf 30 = .ok (.aload_n 1, 1) := by decide +kernel
theorem dX10_executionsOf_31 : decode cX10_executionsOf 31 = .ok (.bipush 10, 2) := by decide +kernel
theorem dX10_executionsOf_33 : decode cX10_executionsOf 33 = .ok (.iload 4, 2) := by decide +kernel
theorem dX10_executionsOf_35 : decode cX10_executionsOf 35 = .ok (.iadd, 1) := by decide +kernel
theorem dX10_executionsOf_36 : decode cX10_executionsOf 36 = .ok (.iaload, 1) := by decide +kernel
theorem dX10_executionsOf_37 : decode cX10_executionsOf 37 = .ok (.if_icmp .ge 44, 3) := by decide +kernel
theorem dX10_executionsOf_40 : decode cX10_executionsOf 40 = .ok (.iload_n 3, 1) := by decide +kernel
theorem dX10_executionsOf_41 : decode cX10_executionsOf 41 = .ok (.aload_n 1, 1) := by decide +kernel
theorem dX10_executionsOf_42 : decode cX10_executionsOf 42 = .ok (.bipush 18, 2) := by decide +kernel
theorem dX10_executionsOf_44 : decode cX10_executionsOf 44 = .ok (.iconst 2, 1) := by decide +kernel
theorem dX10_executionsOf_45 : decode cX10_executionsOf 45 = .ok (.iload 4, 2) := by decide +kernel
theorem dX10_executionsOf_47 : decode cX10_executionsOf 47 = .ok (.imul, 1) := by decide +kernel
theorem dX10_executionsOf_48 : decode cX10_executionsOf 48 = .ok (.iadd, 1) := by decide +kernel
theorem dX10_executionsOf_49 : decode cX10_executionsOf 49 = .ok (.iload 5, 2) := by decide +kernel
theorem dX10_executionsOf_51 : decode cX10_executionsOf 51 = .ok (.iadd, 1) := by decide +kernel
theorem dX10_executionsOf_52 : decode cX10_executionsOf 52 = .ok (.iaload, 1) := by decide +kernel
theorem dX10_executionsOf_53 : decode cX10_executionsOf 53 = .ok (.iload_n 2, 1) := by decide +kernel
theorem dX10_executionsOf_54 : decode cX10_executionsOf 54 = .ok (.if_icmp .ne 18, 3) := by decide +kernel
theorem dX10_executionsOf_57 : decode cX10_executionsOf 57 = .ok (.aload_n 1, 1) := by decide +kernel
theorem dX10_executionsOf_58 : decode cX10_executionsOf 58 = .ok (.bipush 34, 2) := by decide +kernel
theorem dX10_executionsOf_60 : decode cX10_executionsOf 60 = .ok (.iconst 2, 1) := by decide +kernel
theorem dX10_executionsOf_61 : decode cX10_executionsOf 61 = .ok (.iload 4, 2) := by decide +kernel
theorem dX10_executionsOf_63 : decode cX10_executionsOf 63 = .ok (.imul, 1) := by decide +kernel
theorem dX10_executionsOf_64 : decode cX10_executionsOf 64 = .ok (.iadd, 1) := by decide +kernel
theorem dX10_executionsOf_65 : decode cX10_executionsOf 65 = .ok (.iload 5, 2) := by decide +kernel
theorem dX10_executionsOf_67 : decode cX10_executionsOf 67 = .ok (.iadd, 1) := by decide +kernel
theorem dX10_executionsOf_68 : decode cX10_executionsOf 68 = .ok (.iaload, 1) := by decide +kernel
theorem dX10_executionsOf_69 : decode cX10_executionsOf 69 = .ok (.goto 4, 3) := by decide +kernel
theorem dX10_executionsOf_72 : decode cX10_executionsOf 72 = .ok (.iconst 0, 1) := by decide +kernel
theorem dX10_executionsOf_73 : decode cX10_executionsOf 73 = .ok (.iadd, 1) := by decide +kernel
theorem dX10_executionsOf_74 : decode cX10_executionsOf 74 = .ok (.istore_n 3, 1) := by decide +kernel
theorem dX10_executionsOf_75 : decode cX10_executionsOf 75 = .ok (.iinc 5 1, 3) := by decide +kernel
theorem dX10_executionsOf_78 : decode cX10_executionsOf 78 = .ok (.goto (-50), 3) := by decide +kernel
theorem dX10_executionsOf_81 : decode cX10_executionsOf 81 = .ok (.iinc 4 1, 3) := by decide +kernel
theorem dX10_executionsOf_84 : decode cX10_executionsOf 84 = .ok (.goto (-68), 3) := by decide +kernel
theorem dX10_executionsOf_87 : decode cX10_executionsOf 87 = .ok (.iload_n 3, 1) := by decide +kernel
theorem dX10_executionsOf_88 : decode cX10_executionsOf 88 = .ok (.ireturn, 1) := by decide +kernel
theorem dX10_executions_0 : decode cX10_executions 0 = .ok (.aload_n 0, 1) := by decide +kernel
theorem dX10_executions_1 : decode cX10_executions 1 = .ok (.iload_n 1, 1) := by decide +kernel
theorem dX10_executions_2 : decode cX10_executions 2 = .ok (.invokevirtual 61, 3) := by decide +kernel
theorem dX10_executions_5 : decode cX10_executions 5 = .ok (.ifCond .eq 15, 3) := by decide +kernel
theorem dX10_executions_8 : decode cX10_executions 8 = .ok (.aload_n 0, 1) := by decide +kernel
theorem dX10_executions_9 : decode cX10_executions 9 = .ok (.aload_n 0, 1) := by decide +kernel
theorem dX10_executions_10 : decode cX10_executions 10 = .ok (.getfield 16, 3) := by decide +kernel
theorem dX10_executions_13 : decode cX10_executions 13 = .ok (.iload_n 1, 1) := by decide +kernel
theorem dX10_executions_14 : decode cX10_executions 14 = .ok (.invokevirtual 110, 3) := by decide +kernel
theorem dX10_executions_17 : decode cX10_executions 17 = .ok (.goto 4, 3) := by decide +kernel
theorem dX10_executions_20 : decode cX10_executions 20 = .ok (.iconst (-1), 1) := by decide +kernel
theorem dX10_executions_21 : decode cX10_executions 21 = .ok (.ireturn, 1) := by decide +kernel
theorem dX10_positionOf_0 : decode cX10_positionOf 0 = .ok (.iconst 0, 1) := by decide +kernel
theorem dX10_positionOf_1 : decode cX10_positionOf 1 = .ok (.istore_n 3, 1) := by decide +kernel
theorem dX10_positionOf_2 : decode cX10_positionOf 2 = .ok (.iconst 0, 1) := by decide +kernel
theorem dX10_positionOf_3 : decode cX10_positionOf 3 = .ok (.istore 4, 2) := by decide +kernel
theorem dX10_positionOf_5 : decode cX10_positionOf 5 = .ok (.iload 4, 2) := by decide +kernel
theorem dX10_positionOf_7 : decode cX10_positionOf 7 = .ok (.aload_n 0, 1) := by decide +kernel
theorem dX10_positionOf_8 : decode cX10_positionOf 8 = .ok (.getfield 53, 3) := by decide +kernel
theorem dX10_positionOf_11 : decode cX10_positionOf 11 = .ok (.if_icmp .ge 26, 3) := by decide +kernel
theorem dX10_positionOf_14 : decode cX10_positionOf 14 = .ok (.aload_n 1, 1) := by decide +kernel
theorem dX10_positionOf_15 : decode cX10_positionOf 15 = .ok (.iconst 2, 1) := by decide +kernel
theorem dX10_positionOf_16 : decode cX10_positionOf 16 = .ok (.iload 4, 2) := by decide +kernel
theorem dX10_positionOf_18 : decode cX10_positionOf 18 = .ok (.iadd, 1) := by decide +kernel
theorem dX10_positionOf_19 : decode cX10_positionOf 19 = .ok (.iaload, 1) := by decide +kernel
theorem dX10_positionOf_20 : decode cX10_positionOf 20 = .ok (.iload_n 2, 1) := by decide +kernel
theorem dX10_positionOf_21 : decode cX10_positionOf 21 = .ok (.if_icmp .ne 8, 3) := by decide +kernel
theorem dX10_positionOf_24 : decode cX10_positionOf 24 = .ok (.iload 4, 2) := by decide +kernel
theorem dX10_positionOf_26 : decode cX10_positionOf 26 = .ok (.goto 4, 3) := by decide +kernel
theorem dX10_positionOf_29 : decode cX10_positionOf 29 = .ok (.iload_n 3, 1) := by decide +kernel
theorem dX10_positionOf_30 : decode cX10_positionOf 30 = .ok (.istore_n 3, 1) := by decide +kernel
theorem dX10_positionOf_31 : decode cX10_positionOf 31 = .ok (.iinc 4 1, 3) := by decide +kernel
theorem dX10_positionOf_34 : decode cX10_positionOf 34 = .ok (.goto (-29), 3) := by decide +kernel
theorem dX10_positionOf_37 : decode cX10_positionOf 37 = .ok (.iload_n 3, 1) := by decide +kernel
theorem dX10_positionOf_38 : decode cX10_positionOf 38 = .ok (.ireturn, 1) := by decide +kernel
theorem dX10_followerOf_0 : decode cX10_followerOf 0 = .ok (.aload_n 0, 1) := by decide +kernel
theorem dX10_followerOf_1 : decode cX10_followerOf 1 = .ok (.aload_n 1, 1) := by decide +kernel
theorem dX10_followerOf_2 : decode cX10_followerOf 2 = .ok (.iload_n 2, 1) := by decide +kernel
theorem dX10_followerOf_3 : decode cX10_followerOf 3 = .ok (.invokevirtual 114, 3) := by decide +kernel
theorem dX10_followerOf_6 : decode cX10_followerOf 6 = .ok (.istore_n 3, 1) := by decide +kernel
theorem dX10_followerOf_7 : decode cX10_followerOf 7 = .ok (.iload_n 3, 1) := by decide +kernel
theorem dX10_followerOf_8 : decode cX10_followerOf 8 = .ok (.iconst 1, 1) := by decide +kernel
theorem dX10_followerOf_9 : decode cX10_followerOf 9 = .ok (.iadd, 1) := by decide +kernel
theorem dX10_followerOf_10 : decode cX10_followerOf 10 = .ok (.aload_n 0, 1) := by decide +kernel
theorem dX10_followerOf_11 : decode cX10_followerOf 11 = .ok (.getfield 53, 3) := by decide +kernel
theorem dX10_followerOf_14 : decode cX10_followerOf 14 = .ok (.if_icmp .ge 36, 3) := by decide +kernel
theorem dX10_followerOf_17 : decode cX10_followerOf 17 = .ok (.iload_n 3, 1) := by decide +kernel
theorem dX10_followerOf_18 : decode cX10_followerOf 18 = .ok (.aload_n 1, 1) := by decide +kernel
theorem dX10_followerOf_19 : decode cX10_followerOf 19 = .ok (.iconst 0, 1) := by decide +kernel
theorem dX10_followerOf_20 : decode cX10_followerOf 20 = .ok (.iaload, 1) := by decide +kernel
theorem dX10_followerOf_21 : decode cX10_followerOf 21 = .ok (.if_icmp .ge 7, 3) := by decide +kernel
theorem dX10_followerOf_24 : decode cX10_followerOf 24 = .ok (.iconst 1, 1) := by decide +kernel
theorem dX10_followerOf_25 : decode cX10_followerOf 25 = .ok (.goto 4, 3) := by decide +kernel
theorem dX10_followerOf_28 : decode cX10_followerOf 28 = .ok (.iconst 0, 1) := by decide +kernel
theorem dX10_followerOf_29 : decode cX10_followerOf 29 = .ok (.iload_n 3, 1) := by decide +kernel
theorem dX10_followerOf_30 : decode cX10_followerOf 30 = .ok (.iconst 1, 1) := by decide +kernel
theorem dX10_followerOf_31 : decode cX10_followerOf 31 = .ok (.iadd, 1) := by decide +kernel
theorem dX10_followerOf_32 : decode cX10_followerOf 32 = .ok (.aload_n 1, 1) := by decide +kernel
theorem dX10_followerOf_33 : decode cX10_followerOf 33 = .ok (.iconst 0, 1) := by decide +kernel
theorem dX10_followerOf_34 : decode cX10_followerOf 34 = .ok (.iaload, 1) := by decide +kernel
theorem dX10_followerOf_35 : decode cX10_followerOf 35 = .ok (.if_icmp .ge 7, 3) := by decide +kernel
theorem dX10_followerOf_38 : decode cX10_followerOf 38 = .ok (.iconst 1, 1) := by decide +kernel
theorem dX10_followerOf_39 : decode cX10_followerOf 39 = .ok (.goto 4, 3) := by decide +kernel
theorem dX10_followerOf_42 : decode cX10_followerOf 42 = .ok (.iconst 0, 1) := by decide +kernel
theorem dX10_followerOf_43 : decode cX10_followerOf 43 = .ok (.if_icmp .ne 7, 3) := by decide +kernel
theorem dX10_followerOf_46 : decode cX10_followerOf 46 = .ok (.iconst 1, 1) := by decide +kernel
theorem dX10_followerOf_47 : decode cX10_followerOf 47 = .ok (.goto 4, 3) := by decide +kernel
theorem dX10_followerOf_50 : decode cX10_followerOf 50 = .ok (.iconst 0, 1) := by decide +kernel
theorem dX10_followerOf_51 : decode cX10_followerOf 51 = .ok (.istore 4, 2) := by decide +kernel
theorem dX10_followerOf_53 : decode cX10_followerOf 53 = .ok (.iload 4, 2) := by decide +kernel
theorem dX10_followerOf_55 : decode cX10_followerOf 55 = .ok (.ifCond .eq 13, 3) := by decide +kernel
theorem dX10_followerOf_58 : decode cX10_followerOf 58 = .ok (.aload_n 1, 1) := by decide +kernel
theorem dX10_followerOf_59 : decode cX10_followerOf 59 = .ok (.iconst 2, 1) := by decide +kernel
theorem dX10_followerOf_60 : decode cX10_followerOf 60 = .ok (.iload_n 3, 1) := by decide +kernel
theorem dX10_followerOf_61 : decode cX10_followerOf 61 = .ok (.iadd, 1) := by decide +kernel
theorem dX10_followerOf_62 : decode cX10_followerOf 62 = .ok (.iconst 1, 1) := by decide +kernel
theorem dX10_followerOf_63 : decode cX10_followerOf 63 = .ok (.iadd, 1) := by decide +kernel
theorem dX10_followerOf_64 : decode cX10_followerOf 64 = .ok (.iaload, 1) := by decide +kernel
theorem dX10_followerOf_65 : decode cX10_followerOf 65 = .ok (.goto 5, 3) := by decide +kernel
theorem dX10_followerOf_68 : decode cX10_followerOf 68 = .ok (.bipush (-9), 2) := by decide +kernel
theorem dX10_followerOf_70 : decode cX10_followerOf 70 = .ok (.ireturn, 1) := by decide +kernel
theorem dX10_edgeCostOf_0 : decode cX10_edgeCostOf 0 = .ok (.aload_n 0, 1) := by decide +kernel
theorem dX10_edgeCostOf_1 : decode cX10_edgeCostOf 1 = .ok (.aload_n 1, 1) := by decide +kernel
theorem dX10_edgeCostOf_2 : decode cX10_edgeCostOf 2 = .ok (.iload_n 2, 1) := by decide +kernel
theorem dX10_edgeCostOf_3 : decode cX10_edgeCostOf 3 = .ok (.invokevirtual 117, 3) := by decide +kernel
theorem dX10_edgeCostOf_6 : decode cX10_edgeCostOf 6 = .ok (.istore 4, 2) := by decide +kernel
theorem dX10_edgeCostOf_8 : decode cX10_edgeCostOf 8 = .ok (.aload_n 1, 1) := by decide +kernel
theorem dX10_edgeCostOf_9 : decode cX10_edgeCostOf 9 = .ok (.bipush 18, 2) := by decide +kernel
theorem dX10_edgeCostOf_11 : decode cX10_edgeCostOf 11 = .ok (.iconst 2, 1) := by decide +kernel
theorem dX10_edgeCostOf_12 : decode cX10_edgeCostOf 12 = .ok (.iload_n 2, 1) := by decide +kernel
theorem dX10_edgeCostOf_13 : decode cX10_edgeCostOf 13 = .ok (.imul, 1) := by decide +kernel
theorem dX10_edgeCostOf_14 : decode cX10_edgeCostOf 14 = .ok (.iadd, 1) := by decide +kernel
theorem dX10_edgeCostOf_15 : decode cX10_edgeCostOf 15 = .ok (.iload_n 3, 1) := by decide +kernel
theorem dX10_edgeCostOf_16 : decode cX10_edgeCostOf 16 = .ok (.iadd, 1) := by decide +kernel
theorem dX10_edgeCostOf_17 : decode cX10_edgeCostOf 17 = .ok (.iaload, 1) := by decide +kernel
theorem dX10_edgeCostOf_18 : decode cX10_edgeCostOf 18 = .ok (.iload 4, 2) := by decide +kernel
theorem dX10_edgeCostOf_20 : decode cX10_edgeCostOf 20 = .ok (.if_icmp .ne 5, 3) := by decide +kernel
theorem dX10_edgeCostOf_23 : decode cX10_edgeCostOf 23 = .ok (.iconst 0, 1) := by decide +kernel
theorem dX10_edgeCostOf_24 : decode cX10_edgeCostOf 24 = .ok (.ireturn, 1) := by decide +kernel
theorem dX10_edgeCostOf_25 : decode cX10_edgeCostOf 25 = .ok (.aload_n 1, 1) := by decide +kernel
theorem dX10_edgeCostOf_26 : decode cX10_edgeCostOf 26 = .ok (.bipush 10, 2) := by decide +kernel
theorem dX10_edgeCostOf_28 : decode cX10_edgeCostOf 28 = .ok (.iload_n 2, 1) := by decide +kernel
theorem dX10_edgeCostOf_29 : decode cX10_edgeCostOf 29 = .ok (.iadd, 1) := by decide +kernel
theorem dX10_edgeCostOf_30 : decode cX10_edgeCostOf 30 = .ok (.iaload, 1) := by decide +kernel
theorem dX10_edgeCostOf_31 : decode cX10_edgeCostOf 31 = .ok (.iconst 1, 1) := by decide +kernel
theorem dX10_edgeCostOf_32 : decode cX10_edgeCostOf 32 = .ok (.if_icmp .ne 5, 3) := by decide +kernel
theorem dX10_edgeCostOf_35 : decode cX10_edgeCostOf 35 = .ok (.iconst 2, 1) := by decide +kernel
theorem dX10_edgeCostOf_36 : decode cX10_edgeCostOf 36 = .ok (.ireturn, 1) := by decide +kernel
theorem dX10_edgeCostOf_37 : decode cX10_edgeCostOf 37 = .ok (.aload_n 1, 1) := by decide +kernel
theorem dX10_edgeCostOf_38 : decode cX10_edgeCostOf 38 = .ok (.bipush 18, 2) := by decide +kernel
theorem dX10_edgeCostOf_40 : decode cX10_edgeCostOf 40 = .ok (.iconst 2, 1) := by decide +kernel
theorem dX10_edgeCostOf_41 : decode cX10_edgeCostOf 41 = .ok (.iload_n 2, 1) := by decide +kernel
theorem dX10_edgeCostOf_42 : decode cX10_edgeCostOf 42 = .ok (.imul, 1) := by decide +kernel
theorem dX10_edgeCostOf_43 : decode cX10_edgeCostOf 43 = .ok (.iadd, 1) := by decide +kernel
theorem dX10_edgeCostOf_44 : decode cX10_edgeCostOf 44 = .ok (.iconst 1, 1) := by decide +kernel
theorem dX10_edgeCostOf_45 : decode cX10_edgeCostOf 45 = .ok (.iadd, 1) := by decide +kernel
theorem dX10_edgeCostOf_46 : decode cX10_edgeCostOf 46 = .ok (.iload_n 3, 1) := by decide +kernel
theorem dX10_edgeCostOf_47 : decode cX10_edgeCostOf 47 = .ok (.isub, 1) := by decide +kernel
theorem dX10_edgeCostOf_48 : decode cX10_edgeCostOf 48 = .ok (.iaload, 1) := by decide +kernel
theorem dX10_edgeCostOf_49 : decode cX10_edgeCostOf 49 = .ok (.iload 4, 2) := by decide +kernel
theorem dX10_edgeCostOf_51 : decode cX10_edgeCostOf 51 = .ok (.if_icmp .ne 5, 3) := by decide +kernel
theorem dX10_edgeCostOf_54 : decode cX10_edgeCostOf 54 = .ok (.iconst 3, 1) := by decide +kernel
theorem dX10_edgeCostOf_55 : decode cX10_edgeCostOf 55 = .ok (.ireturn, 1) := by decide +kernel
theorem dX10_edgeCostOf_56 : decode cX10_edgeCostOf 56 = .ok (.aload_n 1, 1) := by decide +kernel
theorem dX10_edgeCostOf_57 : decode cX10_edgeCostOf 57 = .ok (.bipush 34, 2) := by decide +kernel
theorem dX10_edgeCostOf_59 : decode cX10_edgeCostOf 59 = .ok (.iconst 2, 1) := by decide +kernel
theorem dX10_edgeCostOf_60 : decode cX10_edgeCostOf 60 = .ok (.iload_n 2, 1) := by decide +kernel
theorem dX10_edgeCostOf_61 : decode cX10_edgeCostOf 61 = .ok (.imul, 1) := by decide +kernel
theorem dX10_edgeCostOf_62 : decode cX10_edgeCostOf 62 = .ok (.iadd, 1) := by decide +kernel
theorem dX10_edgeCostOf_63 : decode cX10_edgeCostOf 63 = .ok (.iconst 1, 1) := by decide +kernel
theorem dX10_edgeCostOf_64 : decode cX10_edgeCostOf 64 = .ok (.iadd, 1) := by decide +kernel
theorem dX10_edgeCostOf_65 : decode cX10_edgeCostOf 65 = .ok (.iaload, 1) := by decide +kernel
theorem dX10_edgeCostOf_66 : decode cX10_edgeCostOf 66 = .ok (.aload_n 1, 1) := by decide +kernel
theorem dX10_edgeCostOf_67 : decode cX10_edgeCostOf 67 = .ok (.bipush 34, 2) := by decide +kernel
theorem dX10_edgeCostOf_69 : decode cX10_edgeCostOf 69 = .ok (.iconst 2, 1) := by decide +kernel
theorem dX10_edgeCostOf_70 : decode cX10_edgeCostOf 70 = .ok (.iload_n 2, 1) := by decide +kernel
theorem dX10_edgeCostOf_71 : decode cX10_edgeCostOf 71 = .ok (.imul, 1) := by decide +kernel
theorem dX10_edgeCostOf_72 : decode cX10_edgeCostOf 72 = .ok (.iadd, 1) := by decide +kernel
theorem dX10_edgeCostOf_73 : decode cX10_edgeCostOf 73 = .ok (.iaload, 1) := by decide +kernel
theorem dX10_edgeCostOf_74 : decode cX10_edgeCostOf 74 = .ok (.if_icmp .le 7, 3) := by decide +kernel
theorem dX10_edgeCostOf_77 : decode cX10_edgeCostOf 77 = .ok (.iconst 1, 1) := by decide +kernel
theorem dX10_edgeCostOf_78 : decode cX10_edgeCostOf 78 = .ok (.goto 4, 3) := by decide +kernel
theorem dX10_edgeCostOf_81 : decode cX10_edgeCostOf 81 = .ok (.iconst 0, 1) := by decide +kernel
theorem dX10_edgeCostOf_82 : decode cX10_edgeCostOf 82 = .ok (.istore 5, 2) := by decide +kernel
theorem dX10_edgeCostOf_84 : decode cX10_edgeCostOf 84 = .ok (.iload_n 3, 1) := by decide +kernel
theorem dX10_edgeCostOf_85 : decode cX10_edgeCostOf 85 = .ok (.iload 5, 2) := by decide +kernel
theorem dX10_edgeCostOf_87 : decode cX10_edgeCostOf 87 = .ok (.if_icmp .ne 7, 3) := by decide +kernel
theorem dX10_edgeCostOf_90 : decode cX10_edgeCostOf 90 = .ok (.iconst 3, 1) := by decide +kernel
theorem dX10_edgeCostOf_91 : decode cX10_edgeCostOf 91 = .ok (.goto 4, 3) := by decide +kernel
theorem dX10_edgeCostOf_94 : decode cX10_edgeCostOf 94 = .ok (.iconst 2, 1) := by decide +kernel
theorem dX10_edgeCostOf_95 : decode cX10_edgeCostOf 95 = .ok (.ireturn, 1) := by decide +kernel
theorem dX10_branchBytesOf_0 : decode cX10_branchBytesOf 0 = .ok (.aload_n 1, 1) := by decide +kernel
theorem dX10_branchBytesOf_1 : decode cX10_branchBytesOf 1 = .ok (.bipush 10, 2) := by decide +kernel
theorem dX10_branchBytesOf_3 : decode cX10_branchBytesOf 3 = .ok (.iload_n 2, 1) := by decide +kernel
theorem dX10_branchBytesOf_4 : decode cX10_branchBytesOf 4 = .ok (.iadd, 1) := by decide +kernel
theorem dX10_branchBytesOf_5 : decode cX10_branchBytesOf 5 = .ok (.iaload, 1) := by decide +kernel
theorem dX10_branchBytesOf_6 : decode cX10_branchBytesOf 6 = .ok (.istore_n 3, 1) := by decide +kernel
theorem dX10_branchBytesOf_7 : decode cX10_branchBytesOf 7 = .ok (.iconst 0, 1) := by decide +kernel
theorem dX10_branchBytesOf_8 : decode cX10_branchBytesOf 8 = .ok (.istore 4, 2) := by decide +kernel
theorem dX10_branchBytesOf_10 : decode cX10_branchBytesOf 10 = .ok (.iconst 0, 1) := by decide +kernel
theorem dX10_branchBytesOf_11 : decode cX10_branchBytesOf 11 = .ok (.istore 5, 2) := by decide +kernel
theorem dX10_branchBytesOf_13 : decode cX10_branchBytesOf 13 = .ok (.iload 5, 2) := by decide +kernel
theorem dX10_branchBytesOf_15 : decode cX10_branchBytesOf 15 = .ok (.iload_n 3, 1) := by decide +kernel
theorem dX10_branchBytesOf_16 : decode cX10_branchBytesOf 16 = .ok (.if_icmp .ge 41, 3) := by decide +kernel
theorem dX10_branchBytesOf_19 : decode cX10_branchBytesOf 19 = .ok (.iload 4, 2) := by decide +kernel
theorem dX10_branchBytesOf_21 : decode cX10_branchBytesOf 21 = .ok (.ifCond .ne 23, 3) := by decide +kernel
theorem dX10_branchBytesOf_24 : decode cX10_branchBytesOf 24 = .ok (.aload_n 1, 1) := by decide +kernel
theorem dX10_branchBytesOf_25 : decode cX10_branchBytesOf 25 = .ok (.bipush 18, 2) := by decide +kernel
theorem dX10_branchBytesOf_27 : decode cX10_branchBytesOf 27 = .ok (.iconst 2, 1) := by decide +kernel
theorem dX10_branchBytesOf_28 : decode cX10_branchBytesOf 28 = .ok (.iload_n 2, 1) := by decide +kernel
theorem dX10_branchBytesOf_29 : decode cX10_branchBytesOf 29 = .ok (.imul, 1) := by decide +kernel
theorem dX10_branchBytesOf_30 : decode cX10_branchBytesOf 30 = .ok (.iadd, 1) := by decide +kernel
theorem dX10_branchBytesOf_31 : decode cX10_branchBytesOf 31 = .ok (.iload 5, 2) := by decide +kernel
theorem dX10_branchBytesOf_33 : decode cX10_branchBytesOf 33 = .ok (.iadd, 1) := by decide +kernel
theorem dX10_branchBytesOf_34 : decode cX10_branchBytesOf 34 = .ok (.iaload, 1) := by decide +kernel
theorem dX10_branchBytesOf_35 : decode cX10_branchBytesOf 35 = .ok (.aload_n 0, 1) := by decide +kernel
theorem dX10_branchBytesOf_36 : decode cX10_branchBytesOf 36 = .ok (.aload_n 1, 1) := by decide +kernel
theorem dX10_branchBytesOf_37 : decode cX10_branchBytesOf 37 = .ok (.iload_n 2, 1) := by decide +kernel
theorem dX10_branchBytesOf_38 : decode cX10_branchBytesOf 38 = .ok (.invokevirtual 117, 3) := by decide +kernel
theorem dX10_branchBytesOf_41 : decode cX10_branchBytesOf 41 = .ok (.if_icmp .ne 7, 3) := by decide +kernel
theorem dX10_branchBytesOf_44 : decode cX10_branchBytesOf 44 = .ok (.iconst 1, 1) := by decide +kernel
theorem dX10_branchBytesOf_45 : decode cX10_branchBytesOf 45 = .ok (.goto 4, 3) := by decide +kernel
theorem dX10_branchBytesOf_48 : decode cX10_branchBytesOf 48 = .ok (.iconst 0, 1) := by decide +kernel
theorem dX10_branchBytesOf_49 : decode cX10_branchBytesOf 49 = .ok (.istore 4, 2) := by decide +kernel
theorem dX10_branchBytesOf_51 : decode cX10_branchBytesOf 51 = .ok (.iinc 5 1, 3) := by decide +kernel
theorem dX10_branchBytesOf_54 : decode cX10_branchBytesOf 54 = .ok (.goto (-41), 3) := by decide +kernel
theorem dX10_branchBytesOf_57 : decode cX10_branchBytesOf 57 = .ok (.iconst 2, 1) := by decide +kernel
theorem dX10_branchBytesOf_58 : decode cX10_branchBytesOf 58 = .ok (.iload 4, 2) := by decide +kernel
theorem dX10_branchBytesOf_60 : decode cX10_branchBytesOf 60 = .ok (.ifCond .eq 9, 3) := by decide +kernel
theorem dX10_branchBytesOf_63 : decode cX10_branchBytesOf 63 = .ok (.iload_n 3, 1) := by decide +kernel
theorem dX10_branchBytesOf_64 : decode cX10_branchBytesOf 64 = .ok (.iconst 1, 1) := by decide +kernel
theorem dX10_branchBytesOf_65 : decode cX10_branchBytesOf 65 = .ok (.isub, 1) := by decide +kernel
theorem dX10_branchBytesOf_66 : decode cX10_branchBytesOf 66 = .ok (.goto 4, 3) := by decide +kernel
theorem dX10_branchBytesOf_69 : decode cX10_branchBytesOf 69 = .ok (.iload_n 3, 1) := by decide +kernel
theorem dX10_branchBytesOf_70 : decode cX10_branchBytesOf 70 = .ok (.imul, 1) := by decide +kernel
theorem dX10_branchBytesOf_71 : decode cX10_branchBytesOf 71 = .ok (.ireturn, 1) := by decide +kernel
theorem dX10_costOf_0 : decode cX10_costOf 0 = .ok (.iconst 0, 1) := by decide +kernel
theorem dX10_costOf_1 : decode cX10_costOf 1 = .ok (.istore_n 2, 1) := by decide +kernel
theorem dX10_costOf_2 : decode cX10_costOf 2 = .ok (.iconst 0, 1) := by decide +kernel
theorem dX10_costOf_3 : decode cX10_costOf 3 = .ok (.istore_n 3, 1) := by decide +kernel
theorem dX10_costOf_4 : decode cX10_costOf 4 = .ok (.iload_n 3, 1) := by decide +kernel
theorem dX10_costOf_5 : decode cX10_costOf 5 = .ok (.aload_n 0, 1) := by decide +kernel
theorem dX10_costOf_6 : decode cX10_costOf 6 = .ok (.getfield 53, 3) := by decide +kernel
theorem dX10_costOf_9 : decode cX10_costOf 9 = .ok (.if_icmp .ge 52, 3) := by decide +kernel
theorem dX10_costOf_12 : decode cX10_costOf 12 = .ok (.iconst 0, 1) := by decide +kernel
theorem dX10_costOf_13 : decode cX10_costOf 13 = .ok (.istore 4, 2) := by decide +kernel
theorem dX10_costOf_15 : decode cX10_costOf 15 = .ok (.iload 4, 2) := by decide +kernel
theorem dX10_costOf_17 : decode cX10_costOf 17 = .ok (.aload_n 1, 1) := by decide +kernel
theorem dX10_costOf_18 : decode cX10_costOf 18 = .ok (.bipush 10, 2) := by decide +kernel
theorem dX10_costOf_20 : decode cX10_costOf 20 = .ok (.iload_n 3, 1) := by decide +kernel
theorem dX10_costOf_21 : decode cX10_costOf 21 = .ok (.iadd, 1) := by decide +kernel
theorem dX10_costOf_22 : decode cX10_costOf 22 = .ok (.iaload, 1) := by decide +kernel
theorem dX10_costOf_23 : decode cX10_costOf 23 = .ok (.if_icmp .ge 32, 3) := by decide +kernel
theorem dX10_costOf_26 : decode cX10_costOf 26 = .ok (.iload_n 2, 1) := by decide +kernel
theorem dX10_costOf_27 : decode cX10_costOf 27 = .ok (.aload_n 1, 1) := by decide +kernel
theorem dX10_costOf_28 : decode cX10_costOf 28 = .ok (.bipush 34, 2) := by decide +kernel
theorem dX10_costOf_30 : decode cX10_costOf 30 = .ok (.iconst 2, 1) := by decide +kernel
theorem dX10_costOf_31 : decode cX10_costOf 31 = .ok (.iload_n 3, 1) := by decide +kernel
theorem dX10_costOf_32 : decode cX10_costOf 32 = .ok (.imul, 1) := by decide +kernel
theorem dX10_costOf_33 : decode cX10_costOf 33 = .ok (.iadd, 1) := by decide +kernel
theorem dX10_costOf_34 : decode cX10_costOf 34 = .ok (.iload 4, 2) := by decide +kernel
theorem dX10_costOf_36 : decode cX10_costOf 36 = .ok (.iadd, 1) := by decide +kernel
theorem dX10_costOf_37 : decode cX10_costOf 37 = .ok (.iaload, 1) := by decide +kernel
theorem dX10_costOf_38 : decode cX10_costOf 38 = .ok (.aload_n 0, 1) := by decide +kernel
theorem dX10_costOf_39 : decode cX10_costOf 39 = .ok (.aload_n 1, 1) := by decide +kernel
theorem dX10_costOf_40 : decode cX10_costOf 40 = .ok (.iload_n 3, 1) := by decide +kernel
theorem dX10_costOf_41 : decode cX10_costOf 41 = .ok (.iload 4, 2) := by decide +kernel
theorem dX10_costOf_43 : decode cX10_costOf 43 = .ok (.invokevirtual 120, 3) := by decide +kernel
theorem dX10_costOf_46 : decode cX10_costOf 46 = .ok (.imul, 1) := by decide +kernel
theorem dX10_costOf_47 : decode cX10_costOf 47 = .ok (.iadd, 1) := by decide +kernel
theorem dX10_costOf_48 : decode cX10_costOf 48 = .ok (.istore_n 2, 1) := by decide +kernel
theorem dX10_costOf_49 : decode cX10_costOf 49 = .ok (.iinc 4 1, 3) := by decide +kernel
theorem dX10_costOf_52 : decode cX10_costOf 52 = .ok (.goto (-37), 3) := by decide +kernel
theorem dX10_costOf_55 : decode cX10_costOf 55 = .ok (.iinc 3 1, 3) := by decide +kernel
theorem dX10_costOf_58 : decode cX10_costOf 58 = .ok (.goto (-54), 3) := by decide +kernel
theorem dX10_costOf_61 : decode cX10_costOf 61 = .ok (.iload_n 2, 1) := by decide +kernel
theorem dX10_costOf_62 : decode cX10_costOf 62 = .ok (.ireturn, 1) := by decide +kernel
theorem dX10_isLoopHead_0 : decode cX10_isLoopHead 0 = .ok (.iconst 0, 1) := by decide +kernel
theorem dX10_isLoopHead_1 : decode cX10_isLoopHead 1 = .ok (.istore_n 3, 1) := by decide +kernel
theorem dX10_isLoopHead_2 : decode cX10_isLoopHead 2 = .ok (.iload_n 2, 1) := by decide +kernel
theorem dX10_isLoopHead_3 : decode cX10_isLoopHead 3 = .ok (.istore 4, 2) := by decide +kernel
theorem dX10_isLoopHead_5 : decode cX10_isLoopHead 5 = .ok (.iload 4, 2) := by decide +kernel
theorem dX10_isLoopHead_7 : decode cX10_isLoopHead 7 = .ok (.aload_n 1, 1) := by decide +kernel
theorem dX10_isLoopHead_8 : decode cX10_isLoopHead 8 = .ok (.iconst 0, 1) := by decide +kernel
theorem dX10_isLoopHead_9 : decode cX10_isLoopHead 9 = .ok (.iaload, 1) := by decide +kernel
theorem dX10_isLoopHead_10 : decode cX10_isLoopHead 10 = .ok (.if_icmp .ge 68, 3) := by decide +kernel
theorem dX10_isLoopHead_13 : decode cX10_isLoopHead 13 = .ok (.aload_n 1, 1) := by decide +kernel
theorem dX10_isLoopHead_14 : decode cX10_isLoopHead 14 = .ok (.iconst 2, 1) := by decide +kernel
theorem dX10_isLoopHead_15 : decode cX10_isLoopHead 15 = .ok (.iload 4, 2) := by decide +kernel
theorem dX10_isLoopHead_17 : decode cX10_isLoopHead 17 = .ok (.iadd, 1) := by decide +kernel
theorem dX10_isLoopHead_18 : decode cX10_isLoopHead 18 = .ok (.iaload, 1) := by decide +kernel
theorem dX10_isLoopHead_19 : decode cX10_isLoopHead 19 = .ok (.istore 5, 2) := by decide +kernel
theorem dX10_isLoopHead_21 : decode cX10_isLoopHead 21 = .ok (.iconst 0, 1) := by decide +kernel
theorem dX10_isLoopHead_22 : decode cX10_isLoopHead 22 = .ok (.istore 6, 2) := by decide +kernel
theorem dX10_isLoopHead_24 : decode cX10_isLoopHead 24 = .ok (.iload 6, 2) := by decide +kernel
theorem dX10_isLoopHead_26 : decode cX10_isLoopHead 26 = .ok (.aload_n 1, 1) := by decide +kernel
theorem dX10_isLoopHead_27 : decode cX10_isLoopHead 27 = .ok (.bipush 10, 2) := by decide +kernel
theorem dX10_isLoopHead_29 : decode cX10_isLoopHead 29 = .ok (.iload 5, 2) := by decide +kernel
theorem dX10_isLoopHead_31 : decode cX10_isLoopHead 31 = .ok (.iadd, 1) := by decide +kernel
theorem dX10_isLoopHead_32 : decode cX10_isLoopHead 32 = .ok (.iaload, 1) := by decide +kernel
theorem dX10_isLoopHead_33 : decode cX10_isLoopHead 33 = .ok (.if_icmp .ge 39, 3) := by decide +kernel
theorem dX10_isLoopHead_36 : decode cX10_isLoopHead 36 = .ok (.iload_n 3, 1) := by decide +kernel
theorem dX10_isLoopHead_37 : decode cX10_isLoopHead 37 = .ok (.ifCond .ne 23, 3) := by decide +kernel
theorem dX10_isLoopHead_40 : decode cX10_isLoopHead 40 = .ok (.aload_n 1, 1) := by decide +kernel
theorem dX10_isLoopHead_41 : decode cX10_isLoopHead 41 = .ok (.bipush 18, 2) := by decide +kernel
theorem dX10_isLoopHead_43 : decode cX10_isLoopHead 43 = .ok (.iconst 2, 1) := by decide +kernel
theorem dX10_isLoopHead_44 : decode cX10_isLoopHead 44 = .ok (.iload 5, 2) := by decide +kernel
theorem dX10_isLoopHead_46 : decode cX10_isLoopHead 46 = .ok (.imul, 1) := by decide +kernel
theorem dX10_isLoopHead_47 : decode cX10_isLoopHead 47 = .ok (.iadd, 1) := by decide +kernel
theorem dX10_isLoopHead_48 : decode cX10_isLoopHead 48 = .ok (.iload 6, 2) := by decide +kernel
theorem dX10_isLoopHead_50 : decode cX10_isLoopHead 50 = .ok (.iadd, 1) := by decide +kernel
theorem dX10_isLoopHead_51 : decode cX10_isLoopHead 51 = .ok (.iaload, 1) := by decide +kernel
theorem dX10_isLoopHead_52 : decode cX10_isLoopHead 52 = .ok (.aload_n 1, 1) := by decide +kernel
theorem dX10_isLoopHead_53 : decode cX10_isLoopHead 53 = .ok (.iconst 2, 1) := by decide +kernel
theorem dX10_isLoopHead_54 : decode cX10_isLoopHead 54 = .ok (.iload_n 2, 1) := by decide +kernel
theorem dX10_isLoopHead_55 : decode cX10_isLoopHead 55 = .ok (.iadd, 1) := by decide +kernel
theorem dX10_isLoopHead_56 : decode cX10_isLoopHead 56 = .ok (.iaload, 1) := by decide +kernel
theorem dX10_isLoopHead_57 : decode cX10_isLoopHead 57 = .ok (.if_icmp .ne 7, 3) := by decide +kernel
theorem dX10_isLoopHead_60 : decode cX10_isLoopHead 60 = .ok (.iconst 1, 1) := by decide +kernel
theorem dX10_isLoopHead_61 : decode cX10_isLoopHead 61 = .ok (.goto 4, 3) := by decide +kernel
theorem dX10_isLoopHead_64 : decode cX10_isLoopHead 64 = .ok (.iconst 0, 1) := by decide +kernel
theorem dX10_isLoopHead_65 : decode cX10_isLoopHead 65 = .ok (.istore_n 3, 1) := by decide +kernel
theorem dX10_isLoopHead_66 : decode cX10_isLoopHead 66 = .ok (.iinc 6 1, 3) := by decide +kernel
theorem dX10_isLoopHead_69 : decode cX10_isLoopHead 69 = .ok (.goto (-45), 3) := by decide +kernel
theorem dX10_isLoopHead_72 : decode cX10_isLoopHead 72 = .ok (.iinc 4 1, 3) := by decide +kernel
theorem dX10_isLoopHead_75 : decode cX10_isLoopHead 75 = .ok (.goto (-70), 3) := by decide +kernel
theorem dX10_isLoopHead_78 : decode cX10_isLoopHead 78 = .ok (.iload_n 3, 1) := by decide +kernel
theorem dX10_isLoopHead_79 : decode cX10_isLoopHead 79 = .ok (.ireturn, 1) := by decide +kernel
theorem dX10_up_0 : decode cX10_up 0 = .ok (.iload_n 0, 1) := by decide +kernel
theorem dX10_up_1 : decode cX10_up 1 = .ok (.iload_n 1, 1) := by decide +kernel
theorem dX10_up_2 : decode cX10_up 2 = .ok (.iadd, 1) := by decide +kernel
theorem dX10_up_3 : decode cX10_up 3 = .ok (.iconst 1, 1) := by decide +kernel
theorem dX10_up_4 : decode cX10_up 4 = .ok (.isub, 1) := by decide +kernel
theorem dX10_up_5 : decode cX10_up 5 = .ok (.iload_n 1, 1) := by decide +kernel
theorem dX10_up_6 : decode cX10_up 6 = .ok (.idiv, 1) := by decide +kernel
theorem dX10_up_7 : decode cX10_up 7 = .ok (.iload_n 1, 1) := by decide +kernel
theorem dX10_up_8 : decode cX10_up 8 = .ok (.imul, 1) := by decide +kernel
theorem dX10_up_9 : decode cX10_up 9 = .ok (.ireturn, 1) := by decide +kernel
theorem dX10_addressOf_0 : decode cX10_addressOf 0 = .ok (.iconst 0, 1) := by decide +kernel
theorem dX10_addressOf_1 : decode cX10_addressOf 1 = .ok (.istore_n 3, 1) := by decide +kernel
theorem dX10_addressOf_2 : decode cX10_addressOf 2 = .ok (.iconst 0, 1) := by decide +kernel
theorem dX10_addressOf_3 : decode cX10_addressOf 3 = .ok (.istore 4, 2) := by decide +kernel
theorem dX10_addressOf_5 : decode cX10_addressOf 5 = .ok (.iconst 0, 1) := by decide +kernel
theorem dX10_addressOf_6 : decode cX10_addressOf 6 = .ok (.istore 5, 2) := by decide +kernel
theorem dX10_addressOf_8 : decode cX10_addressOf 8 = .ok (.iload 5, 2) := by decide +kernel
theorem dX10_addressOf_10 : decode cX10_addressOf 10 = .ok (.aload_n 0, 1) := by decide +kernel
theorem dX10_addressOf_11 : decode cX10_addressOf 11 = .ok (.getfield 53, 3) := by decide +kernel
theorem dX10_addressOf_14 : decode cX10_addressOf 14 = .ok (.if_icmp .ge 103, 3) := by decide +kernel
theorem dX10_addressOf_17 : decode cX10_addressOf 17 = .ok (.iload 5, 2) := by decide +kernel
theorem dX10_addressOf_19 : decode cX10_addressOf 19 = .ok (.aload_n 1, 1) := by decide +kernel
theorem dX10_addressOf_20 : decode cX10_addressOf 20 = .ok (.iconst 0, 1) := by decide +kernel
theorem dX10_addressOf_21 : decode cX10_addressOf 21 = .ok (.iaload, 1) := by decide +kernel
theorem dX10_addressOf_22 : decode cX10_addressOf 22 = .ok (.if_icmp .ge 31, 3) := by decide +kernel
theorem dX10_addressOf_25 : decode cX10_addressOf 25 = .ok (.aload_n 0, 1) := by decide +kernel
theorem dX10_addressOf_26 : decode cX10_addressOf 26 = .ok (.aload_n 1, 1) := by decide +kernel
theorem dX10_addressOf_27 : decode cX10_addressOf 27 = .ok (.iload 5, 2) := by decide +kernel
theorem dX10_addressOf_29 : decode cX10_addressOf 29 = .ok (.invokevirtual 124, 3) := by decide +kernel
theorem dX10_addressOf_32 : decode cX10_addressOf 32 = .ok (.ifCond .eq 14, 3) := by decide +kernel
theorem dX10_addressOf_35 : decode cX10_addressOf 35 = .ok (.iload 4, 2) := by decide +kernel
theorem dX10_addressOf_37 : decode cX10_addressOf 37 = .ok (.aload_n 1, 1) := by decide +kernel
theorem dX10_addressOf_38 : decode cX10_addressOf 38 = .ok (.iconst 1, 1) := by decide +kernel
theorem dX10_addressOf_39 : decode cX10_addressOf 39 = .ok (.iaload, 1) := by decide +kernel
theorem dX10_addressOf_40 : decode cX10_addressOf 40 = .ok (.invokestatic 128, 3) := by decide +kernel
theorem dX10_addressOf_43 : decode cX10_addressOf 43 = .ok (.goto 5, 3) := by decide +kernel
theorem dX10_addressOf_46 : decode cX10_addressOf 46 = .ok (.iload 4, 2) := by decide +kernel
theorem dX10_addressOf_48 : decode cX10_addressOf 48 = .ok (.istore 4, 2) := by decide +kernel
theorem dX10_addressOf_50 : decode cX10_addressOf 50 = .ok (.goto 20, 3) := by decide +kernel
theorem dX10_addressOf_53 : decode cX10_addressOf 53 = .ok (.iload 5, 2) := by decide +kernel
theorem dX10_addressOf_55 : decode cX10_addressOf 55 = .ok (.aload_n 1, 1) := by decide +kernel
theorem dX10_addressOf_56 : decode cX10_addressOf 56 = .ok (.iconst 0, 1) := by decide +kernel
theorem dX10_addressOf_57 : decode cX10_addressOf 57 = .ok (.iaload, 1) := by decide +kernel
theorem dX10_addressOf_58 : decode cX10_addressOf 58 = .ok (.if_icmp .ne 12, 3) := by decide +kernel
theorem dX10_addressOf_61 : decode cX10_addressOf 61 = .ok (.iload 4, 2) := by decide +kernel
theorem dX10_addressOf_63 : decode cX10_addressOf 63 = .ok (.bipush 16, 2) := by decide +kernel
theorem dX10_addressOf_65 : decode cX10_addressOf 65 = .ok (.invokestatic 128, 3) := by decide +kernel
theorem dX10_addressOf_68 : decode cX10_addressOf 68 = .ok (.istore 4, 2) := by decide +kernel
theorem dX10_addressOf_70 : decode cX10_addressOf 70 = .ok (.aload_n 1, 1) := by decide +kernel
theorem dX10_addressOf_71 : decode cX10_addressOf 71 = .ok (.iconst 2, 1) := by decide +kernel
theorem dX10_addressOf_72 : decode cX10_addressOf 72 = .ok (.iload 5, 2) := by decide +kernel
theorem dX10_addressOf_74 : decode cX10_addressOf 74 = .ok (.iadd, 1) := by decide +kernel
theorem dX10_addressOf_75 : decode cX10_addressOf 75 = .ok (.iaload, 1) := by decide +kernel
theorem dX10_addressOf_76 : decode cX10_addressOf 76 = .ok (.istore 6, 2) := by decide +kernel
theorem dX10_addressOf_78 : decode cX10_addressOf 78 = .ok (.iload 6, 2) := by decide +kernel
theorem dX10_addressOf_80 : decode cX10_addressOf 80 = .ok (.iload_n 2, 1) := by decide +kernel
theorem dX10_addressOf_81 : decode cX10_addressOf 81 = .ok (.if_icmp .ne 8, 3) := by decide +kernel
theorem dX10_addressOf_84 : decode cX10_addressOf 84 = .ok (.iload 4, 2) := by decide +kernel
theorem dX10_addressOf_86 : decode cX10_addressOf 86 = .ok (.goto 4, 3) := by decide +kernel
theorem dX10_addressOf_89 : decode cX10_addressOf 89 = .ok (.iload_n 3, 1) := by decide +kernel
theorem dX10_addressOf_90 : decode cX10_addressOf 90 = .ok (.istore_n 3, 1) := by decide +kernel
theorem dX10_addressOf_91 : decode cX10_addressOf 91 = .ok (.iload 4, 2) := by decide +kernel
theorem dX10_addressOf_93 : decode cX10_addressOf 93 = .ok (.aload_n 0, 1) := by decide +kernel
theorem dX10_addressOf_94 : decode cX10_addressOf 94 = .ok (.getfield 13, 3) := by decide +kernel
theorem dX10_addressOf_97 : decode cX10_addressOf 97 = .ok (.iload 6, 2) := by decide +kernel
theorem dX10_addressOf_99 : decode cX10_addressOf 99 = .ok (.iaload, 1) := by decide +kernel
theorem dX10_addressOf_100 : decode cX10_addressOf 100 = .ok (.aload_n 0, 1) := by decide +kernel
theorem dX10_addressOf_101 : decode cX10_addressOf 101 = .ok (.aload_n 1, 1) := by decide +kernel
theorem dX10_addressOf_102 : decode cX10_addressOf 102 = .ok (.iload 6, 2) := by decide +kernel
theorem dX10_addressOf_104 : decode cX10_addressOf 104 = .ok (.invokevirtual 131, 3) := by decide +kernel
theorem dX10_addressOf_107 : decode cX10_addressOf 107 = .ok (.iadd, 1) := by decide +kernel
theorem dX10_addressOf_108 : decode cX10_addressOf 108 = .ok (.iadd, 1) := by decide +kernel
theorem dX10_addressOf_109 : decode cX10_addressOf 109 = .ok (.istore 4, 2) := by decide +kernel
theorem dX10_addressOf_111 : decode cX10_addressOf 111 = .ok (.iinc 5 1, 3) := by decide +kernel
theorem dX10_addressOf_114 : decode cX10_addressOf 114 = .ok (.goto (-106), 3) := by decide +kernel
theorem dX10_addressOf_117 : decode cX10_addressOf 117 = .ok (.aload_n 0, 1) := by decide +kernel
theorem dX10_addressOf_118 : decode cX10_addressOf 118 = .ok (.iload 4, 2) := by decide +kernel
theorem dX10_addressOf_120 : decode cX10_addressOf 120 = .ok (.putfield 134, 3) := by decide +kernel
theorem dX10_addressOf_123 : decode cX10_addressOf 123 = .ok (.iload_n 3, 1) := by decide +kernel
theorem dX10_addressOf_124 : decode cX10_addressOf 124 = .ok (.ireturn, 1) := by decide +kernel
theorem dX10_isPosition_0 : decode cX10_isPosition 0 = .ok (.aload_n 0, 1) := by decide +kernel
theorem dX10_isPosition_1 : decode cX10_isPosition 1 = .ok (.iload_n 1, 1) := by decide +kernel
theorem dX10_isPosition_2 : decode cX10_isPosition 2 = .ok (.invokevirtual 61, 3) := by decide +kernel
theorem dX10_isPosition_5 : decode cX10_isPosition 5 = .ok (.ireturn, 1) := by decide +kernel
theorem dX10_blockAt_0 : decode cX10_blockAt 0 = .ok (.aload_n 0, 1) := by decide +kernel
theorem dX10_blockAt_1 : decode cX10_blockAt 1 = .ok (.iload_n 1, 1) := by decide +kernel
theorem dX10_blockAt_2 : decode cX10_blockAt 2 = .ok (.invokevirtual 137, 3) := by decide +kernel
theorem dX10_blockAt_5 : decode cX10_blockAt 5 = .ok (.ifCond .eq 14, 3) := by decide +kernel
theorem dX10_blockAt_8 : decode cX10_blockAt 8 = .ok (.aload_n 0, 1) := by decide +kernel
theorem dX10_blockAt_9 : decode cX10_blockAt 9 = .ok (.getfield 16, 3) := by decide +kernel
theorem dX10_blockAt_12 : decode cX10_blockAt 12 = .ok (.iconst 2, 1) := by decide +kernel
theorem dX10_blockAt_13 : decode cX10_blockAt 13 = .ok (.iload_n 1, 1) := by decide +kernel
theorem dX10_blockAt_14 : decode cX10_blockAt 14 = .ok (.iadd, 1) := by decide +kernel
theorem dX10_blockAt_15 : decode cX10_blockAt 15 = .ok (.iaload, 1) := by decide +kernel
theorem dX10_blockAt_16 : decode cX10_blockAt 16 = .ok (.goto 4, 3) := by decide +kernel
theorem dX10_blockAt_19 : decode cX10_blockAt 19 = .ok (.iconst (-1), 1) := by decide +kernel
theorem dX10_blockAt_20 : decode cX10_blockAt 20 = .ok (.ireturn, 1) := by decide +kernel
theorem dX10_hotCount_0 : decode cX10_hotCount 0 = .ok (.aload_n 0, 1) := by decide +kernel
theorem dX10_hotCount_1 : decode cX10_hotCount 1 = .ok (.getfield 16, 3) := by decide +kernel
theorem dX10_hotCount_4 : decode cX10_hotCount 4 = .ok (.iconst 0, 1) := by decide +kernel
theorem dX10_hotCount_5 : decode cX10_hotCount 5 = .ok (.iaload, 1) := by decide +kernel
theorem dX10_hotCount_6 : decode cX10_hotCount 6 = .ok (.ireturn, 1) := by decide +kernel
theorem dX10_cost_0 : decode cX10_cost 0 = .ok (.aload_n 0, 1) := by decide +kernel
theorem dX10_cost_1 : decode cX10_cost 1 = .ok (.aload_n 0, 1) := by decide +kernel
theorem dX10_cost_2 : decode cX10_cost 2 = .ok (.getfield 16, 3) := by decide +kernel
theorem dX10_cost_5 : decode cX10_cost 5 = .ok (.invokevirtual 140, 3) := by decide +kernel
theorem dX10_cost_8 : decode cX10_cost 8 = .ok (.ireturn, 1) := by decide +kernel
theorem dX10_codeSize_0 : decode cX10_codeSize 0 = .ok (.aload_n 0, 1) := by decide +kernel
theorem dX10_codeSize_1 : decode cX10_codeSize 1 = .ok (.aload_n 0, 1) := by decide +kernel
theorem dX10_codeSize_2 : decode cX10_codeSize 2 = .ok (.getfield 16, 3) := by decide +kernel
theorem dX10_codeSize_5 : decode cX10_codeSize 5 = .ok (.iconst 0, 1) := by decide +kernel
theorem dX10_codeSize_6 : decode cX10_codeSize 6 = .ok (.invokevirtual 144, 3) := by decide +kernel
theorem dX10_codeSize_9 : decode cX10_codeSize 9 = .ok (.istore_n 1, 1) := by decide +kernel
theorem dX10_codeSize_10 : decode cX10_codeSize 10 = .ok (.aload_n 0, 1) := by decide +kernel
theorem dX10_codeSize_11 : decode cX10_codeSize 11 = .ok (.getfield 134, 3) := by decide +kernel
theorem dX10_codeSize_14 : decode cX10_codeSize 14 = .ok (.ireturn, 1) := by decide +kernel
theorem dX10_address_0 : decode cX10_address 0 = .ok (.aload_n 0, 1) := by decide +kernel
theorem dX10_address_1 : decode cX10_address 1 = .ok (.iload_n 1, 1) := by decide +kernel
theorem dX10_address_2 : decode cX10_address 2 = .ok (.invokevirtual 61, 3) := by decide +kernel
theorem dX10_address_5 : decode cX10_address 5 = .ok (.ifCond .eq 15, 3) := by decide +kernel
theorem dX10_address_8 : decode cX10_address 8 = .ok (.aload_n 0, 1) := by decide +kernel
theorem dX10_address_9 : decode cX10_address 9 = .ok (.aload_n 0, 1) := by decide +kernel
theorem dX10_address_10 : decode cX10_address 10 = .ok (.getfield 16, 3) := by decide +kernel
theorem dX10_address_13 : decode cX10_address 13 = .ok (.iload_n 1, 1) := by decide +kernel
theorem dX10_address_14 : decode cX10_address 14 = .ok (.invokevirtual 144, 3) := by decide +kernel
theorem dX10_address_17 : decode cX10_address 17 = .ok (.goto 4, 3) := by decide +kernel
theorem dX10_address_20 : decode cX10_address 20 = .ok (.iconst (-1), 1) := by decide +kernel
theorem dX10_address_21 : decode cX10_address 21 = .ok (.ireturn, 1) := by decide +kernel
theorem dX10_branchBytes_0 : decode cX10_branchBytes 0 = .ok (.aload_n 0, 1) := by decide +kernel
theorem dX10_branchBytes_1 : decode cX10_branchBytes 1 = .ok (.iload_n 1, 1) := by decide +kernel
theorem dX10_branchBytes_2 : decode cX10_branchBytes 2 = .ok (.invokevirtual 61, 3) := by decide +kernel
theorem dX10_branchBytes_5 : decode cX10_branchBytes 5 = .ok (.ifCond .eq 15, 3) := by decide +kernel
theorem dX10_branchBytes_8 : decode cX10_branchBytes 8 = .ok (.aload_n 0, 1) := by decide +kernel
theorem dX10_branchBytes_9 : decode cX10_branchBytes 9 = .ok (.aload_n 0, 1) := by decide +kernel
theorem dX10_branchBytes_10 : decode cX10_branchBytes 10 = .ok (.getfield 16, 3) := by decide +kernel
theorem dX10_branchBytes_13 : decode cX10_branchBytes 13 = .ok (.iload_n 1, 1) := by decide +kernel
theorem dX10_branchBytes_14 : decode cX10_branchBytes 14 = .ok (.invokevirtual 131, 3) := by decide +kernel
theorem dX10_branchBytes_17 : decode cX10_branchBytes 17 = .ok (.goto 4, 3) := by decide +kernel
theorem dX10_branchBytes_20 : decode cX10_branchBytes 20 = .ok (.iconst (-1), 1) := by decide +kernel
theorem dX10_branchBytes_21 : decode cX10_branchBytes 21 = .ok (.ireturn, 1) := by decide +kernel
theorem dX10_edgeCost_0 : decode cX10_edgeCost 0 = .ok (.aload_n 0, 1) := by decide +kernel
theorem dX10_edgeCost_1 : decode cX10_edgeCost 1 = .ok (.iload_n 1, 1) := by decide +kernel
theorem dX10_edgeCost_2 : decode cX10_edgeCost 2 = .ok (.iload_n 2, 1) := by decide +kernel
theorem dX10_edgeCost_3 : decode cX10_edgeCost 3 = .ok (.invokevirtual 107, 3) := by decide +kernel
theorem dX10_edgeCost_6 : decode cX10_edgeCost 6 = .ok (.ifCond .eq 16, 3) := by decide +kernel
theorem dX10_edgeCost_9 : decode cX10_edgeCost 9 = .ok (.aload_n 0, 1) := by decide +kernel
theorem dX10_edgeCost_10 : decode cX10_edgeCost 10 = .ok (.aload_n 0, 1) := by decide +kernel
theorem dX10_edgeCost_11 : decode cX10_edgeCost 11 = .ok (.getfield 16, 3) := by decide +kernel
theorem dX10_edgeCost_14 : decode cX10_edgeCost 14 = .ok (.iload_n 1, 1) := by decide +kernel
theorem dX10_edgeCost_15 : decode cX10_edgeCost 15 = .ok (.iload_n 2, 1) := by decide +kernel
theorem dX10_edgeCost_16 : decode cX10_edgeCost 16 = .ok (.invokevirtual 120, 3) := by decide +kernel
theorem dX10_edgeCost_19 : decode cX10_edgeCost 19 = .ok (.goto 4, 3) := by decide +kernel
theorem dX10_edgeCost_22 : decode cX10_edgeCost 22 = .ok (.iconst (-1), 1) := by decide +kernel
theorem dX10_edgeCost_23 : decode cX10_edgeCost 23 = .ok (.ireturn, 1) := by decide +kernel
theorem dX10_layChains_0 : decode cX10_layChains 0 = .ok (.iconst 0, 1) := by decide +kernel
theorem dX10_layChains_1 : decode cX10_layChains 1 = .ok (.istore_n 1, 1) := by decide +kernel
theorem dX10_layChains_2 : decode cX10_layChains 2 = .ok (.iload_n 1, 1) := by decide +kernel
theorem dX10_layChains_3 : decode cX10_layChains 3 = .ok (.aload_n 0, 1) := by decide +kernel
theorem dX10_layChains_4 : decode cX10_layChains 4 = .ok (.getfield 53, 3) := by decide +kernel
theorem dX10_layChains_7 : decode cX10_layChains 7 = .ok (.if_icmp .ge 24, 3) := by decide +kernel
theorem dX10_layChains_10 : decode cX10_layChains 10 = .ok (.aload_n 0, 1) := by decide +kernel
theorem dX10_layChains_11 : decode cX10_layChains 11 = .ok (.getfield 41, 3) := by decide +kernel
theorem dX10_layChains_14 : decode cX10_layChains 14 = .ok (.iload_n 1, 1) := by decide +kernel
theorem dX10_layChains_15 : decode cX10_layChains 15 = .ok (.iload_n 1, 1) := by decide +kernel
theorem dX10_layChains_16 : decode cX10_layChains 16 = .ok (.iastore, 1) := by decide +kernel
theorem dX10_layChains_17 : decode cX10_layChains 17 = .ok (.aload_n 0, 1) := by decide +kernel
theorem dX10_layChains_18 : decode cX10_layChains 18 = .ok (.getfield 44, 3) := by decide +kernel
theorem dX10_layChains_21 : decode cX10_layChains 21 = .ok (.iload_n 1, 1) := by decide +kernel
theorem dX10_layChains_22 : decode cX10_layChains 22 = .ok (.bipush (-9), 2) := by decide +kernel
theorem dX10_layChains_24 : decode cX10_layChains 24 = .ok (.iastore, 1) := by decide +kernel
theorem dX10_layChains_25 : decode cX10_layChains 25 = .ok (.iinc 1 1, 3) := by decide +kernel
theorem dX10_layChains_28 : decode cX10_layChains 28 = .ok (.goto (-26), 3) := by decide +kernel
theorem dX10_layChains_31 : decode cX10_layChains 31 = .ok (.bipush 99, 2) := by decide +kernel
theorem dX10_layChains_33 : decode cX10_layChains 33 = .ok (.istore_n 1, 1) := by decide +kernel
theorem dX10_layChains_34 : decode cX10_layChains 34 = .ok (.iload_n 1, 1) := by decide +kernel
theorem dX10_layChains_35 : decode cX10_layChains 35 = .ok (.ifCond .le 182, 3) := by decide +kernel
theorem dX10_layChains_38 : decode cX10_layChains 38 = .ok (.iconst 0, 1) := by decide +kernel
theorem dX10_layChains_39 : decode cX10_layChains 39 = .ok (.istore_n 2, 1) := by decide +kernel
theorem dX10_layChains_40 : decode cX10_layChains 40 = .ok (.iload_n 2, 1) := by decide +kernel
theorem dX10_layChains_41 : decode cX10_layChains 41 = .ok (.iconst 2, 1) := by decide +kernel
theorem dX10_layChains_42 : decode cX10_layChains 42 = .ok (.aload_n 0, 1) := by decide +kernel
theorem dX10_layChains_43 : decode cX10_layChains 43 = .ok (.getfield 53, 3) := by decide +kernel
theorem dX10_layChains_46 : decode cX10_layChains 46 = .ok (.imul, 1) := by decide +kernel
theorem dX10_layChains_47 : decode cX10_layChains 47 = .ok (.if_icmp .ge 164, 3) := by decide +kernel
theorem dX10_layChains_50 : decode cX10_layChains 50 = .ok (.iload_n 2, 1) := by decide +kernel
theorem dX10_layChains_51 : decode cX10_layChains 51 = .ok (.iconst 2, 1) := by decide +kernel
theorem dX10_layChains_52 : decode cX10_layChains 52 = .ok (.idiv, 1) := by decide +kernel
theorem dX10_layChains_53 : decode cX10_layChains 53 = .ok (.istore_n 3, 1) := by decide +kernel
theorem dX10_layChains_54 : decode cX10_layChains 54 = .ok (.iload_n 2, 1) := by decide +kernel
theorem dX10_layChains_55 : decode cX10_layChains 55 = .ok (.iconst 2, 1) := by decide +kernel
theorem dX10_layChains_56 : decode cX10_layChains 56 = .ok (.irem, 1) := by decide +kernel
theorem dX10_layChains_57 : decode cX10_layChains 57 = .ok (.aload_n 0, 1) := by decide +kernel
theorem dX10_layChains_58 : decode cX10_layChains 58 = .ok (.getfield 16, 3) := by decide +kernel
theorem dX10_layChains_61 : decode cX10_layChains 61 = .ok (.bipush 10, 2) := by decide +kernel
theorem dX10_layChains_63 : decode cX10_layChains 63 = .ok (.iload_n 3, 1) := by decide +kernel
theorem dX10_layChains_64 : decode cX10_layChains 64 = .ok (.iadd, 1) := by decide +kernel
theorem dX10_layChains_65 : decode cX10_layChains 65 = .ok (.iaload, 1) := by decide +kernel
theorem dX10_layChains_66 : decode cX10_layChains 66 = .ok (.if_icmp .ge 20, 3) := by decide +kernel
theorem dX10_layChains_69 : decode cX10_layChains 69 = .ok (.aload_n 0, 1) := by decide +kernel
theorem dX10_layChains_70 : decode cX10_layChains 70 = .ok (.getfield 16, 3) := by decide +kernel
theorem dX10_layChains_73 : decode cX10_layChains 73 = .ok (.bipush 34, 2) := by decide +kernel
theorem dX10_layChains_75 : decode cX10_layChains 75 = .ok (.iload_n 2, 1) := by decide +kernel
theorem dX10_layChains_76 : decode cX10_layChains 76 = .ok (.iadd, 1) := by decide +kernel
theorem dX10_layChains_77 : decode cX10_layChains 77 = .ok (.iaload, 1) := by decide +kernel
theorem dX10_layChains_78 : decode cX10_layChains 78 = .ok (.iload_n 1, 1) := by decide +kernel
theorem dX10_layChains_79 : decode cX10_layChains 79 = .ok (.if_icmp .ne 7, 3) := by decide +kernel
theorem dX10_layChains_82 : decode cX10_layChains 82 = .ok (.iconst 1, 1) := by decide +kernel
theorem dX10_layChains_83 : decode cX10_layChains 83 = .ok (.goto 4, 3) := by decide +kernel
theorem dX10_layChains_86 : decode cX10_layChains 86 = .ok (.iconst 0, 1) := by decide +kernel
theorem dX10_layChains_87 : decode cX10_layChains 87 = .ok (.istore 4, 2) := by decide +kernel
theorem dX10_layChains_89 : decode cX10_layChains 89 = .ok (.aload_n 0, 1) := by decide +kernel
theorem dX10_layChains_90 : decode cX10_layChains 90 = .ok (.getfield 16, 3) := by decide +kernel
theorem dX10_layChains_93 : decode cX10_layChains 93 = .ok (.bipush 18, 2) := by decide +kernel
theorem dX10_layChains_95 : decode cX10_layChains 95 = .ok (.iload_n 2, 1) := by decide +kernel
theorem dX10_layChains_96 : decode cX10_layChains 96 = .ok (.iadd, 1) := by decide +kernel
theorem dX10_layChains_97 : decode cX10_layChains 97 = .ok (.iaload, 1) := by decide +kernel
theorem dX10_layChains_98 : decode cX10_layChains 98 = .ok (.istore 5, 2) := by decide +kernel
theorem dX10_layChains_100 : decode cX10_layChains 100 = .ok (.iload 4, 2) := by decide +kernel
theorem dX10_layChains_102 : decode cX10_layChains 102 = .ok (.ifCond .eq 103, 3) := by decide +kernel
theorem dX10_layChains_105 : decode cX10_layChains 105 = .ok (.aload_n 0, 1) := by decide +kernel
theorem dX10_layChains_106 : decode cX10_layChains 106 = .ok (.getfield 44, 3) := by decide +kernel
theorem dX10_layChains_109 : decode cX10_layChains 109 = .ok (.iload_n 3, 1) := by decide +kernel
theorem dX10_layChains_110 : decode cX10_layChains 110 = .ok (.iaload, 1) := by decide +kernel
theorem dX10_layChains_111 : decode cX10_layChains 111 = .ok (.bipush (-9), 2) := by decide +kernel
theorem dX10_layChains_113 : decode cX10_layChains 113 = .ok (.if_icmp .ne 92, 3) := by decide +kernel
theorem dX10_layChains_116 : decode cX10_layChains 116 = .ok (.iload 5, 2) := by decide +kernel
theorem dX10_layChains_118 : decode cX10_layChains 118 = .ok (.ifCond .eq 87, 3) := by decide +kernel
theorem dX10_layChains_121 : decode cX10_layChains 121 = .ok (.aload_n 0, 1) := by decide +kernel
theorem dX10_layChains_122 : decode cX10_layChains 122 = .ok (.getfield 41, 3) := by decide +kernel
theorem dX10_layChains_125 : decode cX10_layChains 125 = .ok (.iload 5, 2) := by decide +kernel
theorem dX10_layChains_127 : decode cX10_layChains 127 = .ok (.iaload, 1) := by decide +kernel
theorem dX10_layChains_128 : decode cX10_layChains 128 = .ok (.iload 5, 2) := by decide +kernel
theorem dX10_layChains_130 : decode cX10_layChains 130 = .ok (.if_icmp .ne 75, 3) := by decide +kernel
theorem dX10_layChains_133 : decode cX10_layChains 133 = .ok (.aload_n 0, 1) := by decide +kernel
theorem dX10_layChains_134 : decode cX10_layChains 134 = .ok (.getfield 41, 3) := by decide +kernel
theorem dX10_layChains_137 : decode cX10_layChains 137 = .ok (.iload_n 3, 1) := by decide +kernel
theorem dX10_layChains_138 : decode cX10_layChains 138 = .ok (.iaload, 1) := by decide +kernel
theorem dX10_layChains_139 : decode cX10_layChains 139 = .ok (.iload 5, 2) := by decide +kernel
theorem dX10_layChains_141 : decode cX10_layChains 141 = .ok (.if_icmp .eq 64, 3) := by decide +kernel
theorem dX10_layChains_144 : decode cX10_layChains 144 = .ok (.aload_n 0, 1) := by decide +kernel
theorem dX10_layChains_145 : decode cX10_layChains 145 = .ok (.getfield 44, 3) := by decide +kernel
theorem dX10_layChains_148 : decode cX10_layChains 148 = .ok (.iload_n 3, 1) := by decide +kernel
theorem dX10_layChains_149 : decode cX10_layChains 149 = .ok (.iload 5, 2) := by decide +kernel
theorem dX10_layChains_151 : decode cX10_layChains 151 = .ok (.iastore, 1) := by decide +kernel
theorem dX10_layChains_152 : decode cX10_layChains 152 = .ok (.iconst 0, 1) := by decide +kernel
theorem dX10_layChains_153 : decode cX10_layChains 153 = .ok (.istore 6, 2) := by decide +kernel
theorem dX10_layChains_155 : decode cX10_layChains 155 = .ok (.iload 6, 2) := by decide +kernel
theorem dX10_layChains_157 : decode cX10_layChains 157 = .ok (.aload_n 0, 1) := by decide +kernel
theorem dX10_layChains_158 : decode cX10_layChains 158 = .ok (.getfield 53, 3) := by decide +kernel
theorem dX10_layChains_161 : decode cX10_layChains 161 = .ok (.if_icmp .ge 44, 3) := by decide +kernel
theorem dX10_layChains_164 : decode cX10_layChains 164 = .ok (.aload_n 0, 1) := by decide +kernel
theorem dX10_layChains_165 : decode cX10_layChains 165 = .ok (.getfield 41, 3) := by decide +kernel
theorem dX10_layChains_168 : decode cX10_layChains 168 = .ok (.iload 6, 2) := by decide +kernel
theorem dX10_layChains_170 : decode cX10_layChains 170 = .ok (.aload_n 0, 1) := by decide +kernel
theorem dX10_layChains_171 : decode cX10_layChains 171 = .ok (.getfield 41, 3) := by decide +kernel
theorem dX10_layChains_174 : decode cX10_layChains 174 = .ok (.iload 6, 2) := by decide +kernel
theorem dX10_layChains_176 : decode cX10_layChains 176 = .ok (.iaload, 1) := by decide +kernel
theorem dX10_layChains_177 : decode cX10_layChains 177 = .ok (.iload 5, 2) := by decide +kernel
theorem dX10_layChains_179 : decode cX10_layChains 179 = .ok (.if_icmp .ne 12, 3) := by decide +kernel
theorem dX10_layChains_182 : decode cX10_layChains 182 = .ok (.aload_n 0, 1) := by decide +kernel
theorem dX10_layChains_183 : decode cX10_layChains 183 = .ok (.getfield 41, 3) := by decide +kernel
theorem dX10_layChains_186 : decode cX10_layChains 186 = .ok (.iload_n 3, 1) := by decide +kernel
theorem dX10_layChains_187 : decode cX10_layChains 187 = .ok (.iaload, 1) := by decide +kernel
theorem dX10_layChains_188 : decode cX10_layChains 188 = .ok (.goto 10, 3) := by decide +kernel
theorem dX10_layChains_191 : decode cX10_layChains 191 = .ok (.aload_n 0, 1) := by decide +kernel
theorem dX10_layChains_192 : decode cX10_layChains 192 = .ok (.getfield 41, 3) := by decide +kernel
theorem dX10_layChains_195 : decode cX10_layChains 195 = .ok (.iload 6, 2) := by decide +kernel
theorem dX10_layChains_197 : decode cX10_layChains 197 = .ok (.iaload, 1) := by decide +kernel
theorem dX10_layChains_198 : decode cX10_layChains 198 = .ok (.iastore, 1) := by decide +kernel
theorem dX10_layChains_199 : decode cX10_layChains 199 = .ok (.iinc 6 1, 3) := by decide +kernel
theorem dX10_layChains_202 : decode cX10_layChains 202 = .ok (.goto (-47), 3) := by decide +kernel
theorem dX10_layChains_205 : decode cX10_layChains 205 = .ok (.iinc 2 1, 3) := by decide +kernel
theorem dX10_layChains_208 : decode cX10_layChains 208 = .ok (.goto (-168), 3) := by decide +kernel
theorem dX10_layChains_211 : decode cX10_layChains 211 = .ok (.iinc 1 (-1), 3) := by decide +kernel
theorem dX10_layChains_214 : decode cX10_layChains 214 = .ok (.goto (-180), 3) := by decide +kernel
theorem dX10_layChains_217 : decode cX10_layChains 217 = .ok (.return_, 1) := by decide +kernel
theorem dX10_chainHead_0 : decode cX10_chainHead 0 = .ok (.aload_n 0, 1) := by decide +kernel
theorem dX10_chainHead_1 : decode cX10_chainHead 1 = .ok (.iload_n 1, 1) := by decide +kernel
theorem dX10_chainHead_2 : decode cX10_chainHead 2 = .ok (.invokevirtual 61, 3) := by decide +kernel
theorem dX10_chainHead_5 : decode cX10_chainHead 5 = .ok (.ifCond .ne 5, 3) := by decide +kernel
theorem dX10_chainHead_8 : decode cX10_chainHead 8 = .ok (.iconst (-1), 1) := by decide +kernel
theorem dX10_chainHead_9 : decode cX10_chainHead 9 = .ok (.ireturn, 1) := by decide +kernel
theorem dX10_chainHead_10 : decode cX10_chainHead 10 = .ok (.aload_n 0, 1) := by decide +kernel
theorem dX10_chainHead_11 : decode cX10_chainHead 11 = .ok (.invokevirtual 147, 3) := by decide +kernel
theorem dX10_chainHead_14 : decode cX10_chainHead 14 = .ok (.aload_n 0, 1) := by decide +kernel
theorem dX10_chainHead_15 : decode cX10_chainHead 15 = .ok (.getfield 41, 3) := by decide +kernel
theorem dX10_chainHead_18 : decode cX10_chainHead 18 = .ok (.iload_n 1, 1) := by decide +kernel
theorem dX10_chainHead_19 : decode cX10_chainHead 19 = .ok (.iaload, 1) := by decide +kernel
theorem dX10_chainHead_20 : decode cX10_chainHead 20 = .ok (.ireturn, 1) := by decide +kernel
theorem dX10_weightOf_0 : decode cX10_weightOf 0 = .ok (.iconst 0, 1) := by decide +kernel
theorem dX10_weightOf_1 : decode cX10_weightOf 1 = .ok (.istore_n 2, 1) := by decide +kernel
theorem dX10_weightOf_2 : decode cX10_weightOf 2 = .ok (.iconst 0, 1) := by decide +kernel
theorem dX10_weightOf_3 : decode cX10_weightOf 3 = .ok (.istore_n 3, 1) := by decide +kernel
theorem dX10_weightOf_4 : decode cX10_weightOf 4 = .ok (.iload_n 3, 1) := by decide +kernel
theorem dX10_weightOf_5 : decode cX10_weightOf 5 = .ok (.aload_n 0, 1) := by decide +kernel
theorem dX10_weightOf_6 : decode cX10_weightOf 6 = .ok (.getfield 53, 3) := by decide +kernel
theorem dX10_weightOf_9 : decode cX10_weightOf 9 = .ok (.if_icmp .ge 121, 3) := by decide +kernel
theorem dX10_weightOf_12 : decode cX10_weightOf 12 = .ok (.iconst 0, 1) := by decide +kernel
theorem dX10_weightOf_13 : decode cX10_weightOf 13 = .ok (.istore 4, 2) := by decide +kernel
theorem dX10_weightOf_15 : decode cX10_weightOf 15 = .ok (.iload 4, 2) := by decide +kernel
theorem dX10_weightOf_17 : decode cX10_weightOf 17 = .ok (.aload_n 0, 1) := by decide +kernel
theorem dX10_weightOf_18 : decode cX10_weightOf 18 = .ok (.getfield 16, 3) := by decide +kernel
theorem dX10_weightOf_21 : decode cX10_weightOf 21 = .ok (.bipush 10, 2) := by decide +kernel
theorem dX10_weightOf_23 : decode cX10_weightOf 23 = .ok (.iload_n 3, 1) := by decide +kernel
theorem dX10_weightOf_24 : decode cX10_weightOf 24 = .ok (.iadd, 1) := by decide +kernel
theorem dX10_weightOf_25 : decode cX10_weightOf 25 = .ok (.iaload, 1) := by decide +kernel
theorem dX10_weightOf_26 : decode cX10_weightOf 26 = .ok (.if_icmp .ge 98, 3) := by decide +kernel
theorem dX10_weightOf_29 : decode cX10_weightOf 29 = .ok (.aload_n 0, 1) := by decide +kernel
theorem dX10_weightOf_30 : decode cX10_weightOf 30 = .ok (.getfield 16, 3) := by decide +kernel
theorem dX10_weightOf_33 : decode cX10_weightOf 33 = .ok (.bipush 18, 2) := by decide +kernel
theorem dX10_weightOf_35 : decode cX10_weightOf 35 = .ok (.iconst 2, 1) := by decide +kernel
theorem dX10_weightOf_36 : decode cX10_weightOf 36 = .ok (.iload_n 3, 1) := by decide +kernel
theorem dX10_weightOf_37 : decode cX10_weightOf 37 = .ok (.imul, 1) := by decide +kernel
theorem dX10_weightOf_38 : decode cX10_weightOf 38 = .ok (.iadd, 1) := by decide +kernel
theorem dX10_weightOf_39 : decode cX10_weightOf 39 = .ok (.iload 4, 2) := by decide +kernel
theorem dX10_weightOf_41 : decode cX10_weightOf 41 = .ok (.iadd, 1) := by decide +kernel
theorem dX10_weightOf_42 : decode cX10_weightOf 42 = .ok (.iaload, 1) := by decide +kernel
theorem dX10_weightOf_43 : decode cX10_weightOf 43 = .ok (.istore 5, 2) := by decide +kernel
theorem dX10_weightOf_45 : decode cX10_weightOf 45 = .ok (.aload_n 0, 1) := by decide +kernel
theorem dX10_weightOf_46 : decode cX10_weightOf 46 = .ok (.getfield 47, 3) := by decide +kernel
theorem dX10_weightOf_49 : decode cX10_weightOf 49 = .ok (.iload_n 3, 1) := by decide +kernel
theorem dX10_weightOf_50 : decode cX10_weightOf 50 = .ok (.baload, 1) := by decide +kernel
theorem dX10_weightOf_51 : decode cX10_weightOf 51 = .ok (.ifCond .eq 14, 3) := by decide +kernel
theorem dX10_weightOf_54 : decode cX10_weightOf 54 = .ok (.aload_n 0, 1) := by decide +kernel
theorem dX10_weightOf_55 : decode cX10_weightOf 55 = .ok (.getfield 41, 3) := by decide +kernel
theorem dX10_weightOf_58 : decode cX10_weightOf 58 = .ok (.iload 5, 2) := by decide +kernel
theorem dX10_weightOf_60 : decode cX10_weightOf 60 = .ok (.iaload, 1) := by decide +kernel
theorem dX10_weightOf_61 : decode cX10_weightOf 61 = .ok (.iload_n 1, 1) := by decide +kernel
theorem dX10_weightOf_62 : decode cX10_weightOf 62 = .ok (.if_icmp .eq 23, 3) := by decide +kernel
theorem dX10_weightOf_65 : decode cX10_weightOf 65 = .ok (.aload_n 0, 1) := by decide +kernel
theorem dX10_weightOf_66 : decode cX10_weightOf 66 = .ok (.getfield 47, 3) := by decide +kernel
theorem dX10_weightOf_69 : decode cX10_weightOf 69 = .ok (.iload 5, 2) := by decide +kernel
theorem dX10_weightOf_71 : decode cX10_weightOf 71 = .ok (.baload, 1) := by decide +kernel
theorem dX10_weightOf_72 : decode cX10_weightOf 72 = .ok (.ifCond .eq 17, 3) := by decide +kernel
theorem dX10_weightOf_75 : decode cX10_weightOf 75 = .ok (.aload_n 0, 1) := by decide +kernel
theorem dX10_weightOf_76 : decode cX10_weightOf 76 = .ok (.getfield 41, 3) := by decide +kernel
theorem dX10_weightOf_79 : decode cX10_weightOf 79 = .ok (.iload_n 3, 1) := by decide +kernel
theorem dX10_weightOf_80 : decode cX10_weightOf 80 = .ok (.iaload, 1) := by decide +kernel
theorem dX10_weightOf_81 : decode cX10_weightOf 81 = .ok (.iload_n 1, 1) := by decide +kernel
theorem dX10_weightOf_82 : decode cX10_weightOf 82 = .ok (.if_icmp .ne 7, 3) := by decide +kernel
theorem dX10_weightOf_85 : decode cX10_weightOf 85 = .ok (.iconst 1, 1) := by decide +kernel
theorem dX10_weightOf_86 : decode cX10_weightOf 86 = .ok (.goto 4, 3) := by decide +kernel
theorem dX10_weightOf_89 : decode cX10_weightOf 89 = .ok (.iconst 0, 1) := by decide +kernel
theorem dX10_weightOf_90 : decode cX10_weightOf 90 = .ok (.istore 6, 2) := by decide +kernel
theorem dX10_weightOf_92 : decode cX10_weightOf 92 = .ok (.iload_n 2, 1) := by decide +kernel
theorem dX10_weightOf_93 : decode cX10_weightOf 93 = .ok (.iload 6, 2) := by decide +kernel
theorem dX10_weightOf_95 : decode cX10_weightOf 95 = .ok (.ifCond .eq 20, 3) := by decide +kernel
theorem dX10_weightOf_98 : decode cX10_weightOf 98 = .ok (.aload_n 0, 1) := by decide +kernel
theorem dX10_weightOf_99 : decode cX10_weightOf 99 = .ok (.getfield 16, 3) := by decide +kernel
theorem dX10_weightOf_102 : decode cX10_weightOf 102 = .ok (.bipush 34, 2) := by decide +kernel
theorem dX10_weightOf_104 : decode cX10_weightOf 104 = .ok (.iconst 2, 1) := by decide +kernel
theorem dX10_weightOf_105 : decode cX10_weightOf 105 = .ok (.iload_n 3, 1) := by decide +kernel
theorem dX10_weightOf_106 : decode cX10_weightOf 106 = .ok (.imul, 1) := by decide +kernel
theorem dX10_weightOf_107 : decode cX10_weightOf 107 = .ok (.iadd, 1) := by decide +kernel
theorem dX10_weightOf_108 : decode cX10_weightOf 108 = .ok (.iload 4, 2) := by decide +kernel
theorem dX10_weightOf_110 : decode cX10_weightOf 110 = .ok (.iadd, 1) := by decide +kernel
theorem dX10_weightOf_111 : decode cX10_weightOf 111 = .ok (.iaload, 1) := by decide +kernel
theorem dX10_weightOf_112 : decode cX10_weightOf 112 = .ok (.goto 4, 3) := by decide +kernel
theorem dX10_weightOf_115 : decode cX10_weightOf 115 = .ok (.iconst 0, 1) := by decide +kernel
theorem dX10_weightOf_116 : decode cX10_weightOf 116 = .ok (.iadd, 1) := by decide +kernel
theorem dX10_weightOf_117 : decode cX10_weightOf 117 = .ok (.istore_n 2, 1) := by decide +kernel
theorem dX10_weightOf_118 : decode cX10_weightOf 118 = .ok (.iinc 4 1, 3) := by decide +kernel
theorem dX10_weightOf_121 : decode cX10_weightOf 121 = .ok (.goto (-106), 3) := by decide +kernel
theorem dX10_weightOf_124 : decode cX10_weightOf 124 = .ok (.iinc 3 1, 3) := by decide +kernel
theorem dX10_weightOf_127 : decode cX10_weightOf 127 = .ok (.goto (-123), 3) := by decide +kernel
theorem dX10_weightOf_130 : decode cX10_weightOf 130 = .ok (.iload_n 2, 1) := by decide +kernel
theorem dX10_weightOf_131 : decode cX10_weightOf 131 = .ok (.ireturn, 1) := by decide +kernel
theorem dX10_orderByChains_0 : decode cX10_orderByChains 0 = .ok (.aload_n 0, 1) := by decide +kernel
theorem dX10_orderByChains_1 : decode cX10_orderByChains 1 = .ok (.invokevirtual 150, 3) := by decide +kernel
theorem dX10_orderByChains_4 : decode cX10_orderByChains 4 = .ok (.aload_n 0, 1) := by decide +kernel
theorem dX10_orderByChains_5 : decode cX10_orderByChains 5 = .ok (.invokevirtual 147, 3) := by decide +kernel
theorem dX10_orderByChains_8 : decode cX10_orderByChains 8 = .ok (.iconst 0, 1) := by decide +kernel
theorem dX10_orderByChains_9 : decode cX10_orderByChains 9 = .ok (.istore_n 1, 1) := by decide +kernel
theorem dX10_orderByChains_10 : decode cX10_orderByChains 10 = .ok (.iload_n 1, 1) := by decide +kernel
theorem dX10_orderByChains_11 : decode cX10_orderByChains 11 = .ok (.aload_n 0, 1) := by decide +kernel
theorem dX10_orderByChains_12 : decode cX10_orderByChains 12 = .ok (.getfield 53, 3) := by decide +kernel
theorem dX10_orderByChains_15 : decode cX10_orderByChains 15 = .ok (.if_icmp .ge 16, 3) := by decide +kernel
theorem dX10_orderByChains_18 : decode cX10_orderByChains 18 = .ok (.aload_n 0, 1) := by decide +kernel
theorem dX10_orderByChains_19 : decode cX10_orderByChains 19 = .ok (.getfield 47, 3) := by decide +kernel
theorem dX10_orderByChains_22 : decode cX10_orderByChains 22 = .ok (.iload_n 1, 1) := by decide +kernel
theorem dX10_orderByChains_23 : decode cX10_orderByChains 23 = .ok (.iconst 0, 1) := by decide +kernel
theorem dX10_orderByChains_24 : decode cX10_orderByChains 24 = .ok (.bastore, 1) := by decide +kernel
theorem dX10_orderByChains_25 : decode cX10_orderByChains 25 = .ok (.iinc 1 1, 3) := by decide +kernel
theorem dX10_orderByChains_28 : decode cX10_orderByChains 28 = .ok (.goto (-18), 3) := by decide +kernel
theorem dX10_orderByChains_31 : decode cX10_orderByChains 31 = .ok (.iconst 0, 1) := by decide +kernel
theorem dX10_orderByChains_32 : decode cX10_orderByChains 32 = .ok (.istore_n 1, 1) := by decide +kernel
theorem dX10_orderByChains_33 : decode cX10_orderByChains 33 = .ok (.iconst 0, 1) := by decide +kernel
theorem dX10_orderByChains_34 : decode cX10_orderByChains 34 = .ok (.istore_n 2, 1) := by decide +kernel
theorem dX10_orderByChains_35 : decode cX10_orderByChains 35 = .ok (.iload_n 1, 1) := by decide +kernel
theorem dX10_orderByChains_36 : decode cX10_orderByChains 36 = .ok (.aload_n 0, 1) := by decide +kernel
theorem dX10_orderByChains_37 : decode cX10_orderByChains 37 = .ok (.getfield 53, 3) := by decide +kernel
theorem dX10_orderByChains_40 : decode cX10_orderByChains 40 = .ok (.if_icmp .ge 105, 3) := by decide +kernel
theorem dX10_orderByChains_43 : decode cX10_orderByChains 43 = .ok (.iload_n 2, 1) := by decide +kernel
theorem dX10_orderByChains_44 : decode cX10_orderByChains 44 = .ok (.istore_n 3, 1) := by decide +kernel
theorem dX10_orderByChains_45 : decode cX10_orderByChains 45 = .ok (.iload_n 3, 1) := by decide +kernel
theorem dX10_orderByChains_46 : decode cX10_orderByChains 46 = .ok (.bipush (-9), 2) := by decide +kernel
theorem dX10_orderByChains_48 : decode cX10_orderByChains 48 = .ok (.if_icmp .eq 32, 3) := by decide +kernel
theorem dX10_orderByChains_51 : decode cX10_orderByChains 51 = .ok (.aload_n 0, 1) := by decide +kernel
theorem dX10_orderByChains_52 : decode cX10_orderByChains 52 = .ok (.getfield 16, 3) := by decide +kernel
theorem dX10_orderByChains_55 : decode cX10_orderByChains 55 = .ok (.iconst 2, 1) := by decide +kernel
theorem dX10_orderByChains_56 : decode cX10_orderByChains 56 = .ok (.iload_n 1, 1) := by decide +kernel
theorem dX10_orderByChains_57 : decode cX10_orderByChains 57 = .ok (.iadd, 1) := by decide +kernel
theorem dX10_orderByChains_58 : decode cX10_orderByChains 58 = .ok (.iload_n 3, 1) := by decide +kernel
theorem dX10_orderByChains_59 : decode cX10_orderByChains 59 = .ok (.iastore, 1) := by decide +kernel
theorem dX10_orderByChains_60 : decode cX10_orderByChains 60 = .ok (.aload_n 0, 1) := by decide +kernel
theorem dX10_orderByChains_61 : decode cX10_orderByChains 61 = .ok (.getfield 47, 3) := by decide +kernel
