theorem dJ6_bitCount_0f7a4_0 : decode cJ6_bitCount_0f7a4 0 = .ok (.iload_n 0, 1) := by decide +kernel
theorem dJ6_bitCount_0f7a4_1 : decode cJ6_bitCount_0f7a4 1 = .ok (.iload_n 0, 1) := by decide +kernel
theorem dJ6_bitCount_0f7a4_2 : decode cJ6_bitCount_0f7a4 2 = .ok (.iconst 1, 1) := by decide +kernel
theorem dJ6_bitCount_0f7a4_3 : decode cJ6_bitCount_0f7a4 3 = .ok (.iushr, 1) := by decide +kernel
theorem dJ6_bitCount_0f7a4_4 : decode cJ6_bitCount_0f7a4 4 = .ok (.ldc_w 265, 3) := by decide +kernel
theorem dJ6_bitCount_0f7a4_7 : decode cJ6_bitCount_0f7a4 7 = .ok (.iand, 1) := by decide +kernel
theorem dJ6_bitCount_0f7a4_8 : decode cJ6_bitCount_0f7a4 8 = .ok (.isub, 1) := by decide +kernel
theorem dJ6_bitCount_0f7a4_9 : decode cJ6_bitCount_0f7a4 9 = .ok (.istore_n 0, 1) := by decide +kernel
theorem dJ6_bitCount_0f7a4_10 : decode cJ6_bitCount_0f7a4 10 = .ok (.iload_n 0, 1) := by decide +kernel
theorem dJ6_bitCount_0f7a4_11 : decode cJ6_bitCount_0f7a4 11 = .ok (.ldc_w 266, 3) := by decide +kernel
theorem dJ6_bitCount_0f7a4_14 : decode cJ6_bitCount_0f7a4 14 = .ok (.iand, 1) := by decide +kernel
theorem dJ6_bitCount_0f7a4_15 : decode cJ6_bitCount_0f7a4 15 = .ok (.iload_n 0, 1) := by decide +kernel
theorem dJ6_bitCount_0f7a4_16 : decode cJ6_bitCount_0f7a4 16 = .ok (.iconst 2, 1) := by decide +kernel
theorem dJ6_bitCount_0f7a4_17 : decode cJ6_bitCount_0f7a4 17 = .ok (.iushr, 1) := by decide +kernel
theorem dJ6_bitCount_0f7a4_18 : decode cJ6_bitCount_0f7a4 18 = .ok (.ldc_w 266, 3) := by decide +kernel
theorem dJ6_bitCount_0f7a4_21 : decode cJ6_bitCount_0f7a4 21 = .ok (.iand, 1) := by decide +kernel
theorem dJ6_bitCount_0f7a4_22 : decode cJ6_bitCount_0f7a4 22 = .ok (.iadd, 1) := by decide +kernel
theorem dJ6_bitCount_0f7a4_23 : decode cJ6_bitCount_0f7a4 23 = .ok (.istore_n 0, 1) := by decide +kernel
theorem dJ6_bitCount_0f7a4_24 : decode cJ6_bitCount_0f7a4 24 = .ok (.iload_n 0, 1) := by decide +kernel
theorem dJ6_bitCount_0f7a4_25 : decode cJ6_bitCount_0f7a4 25 = .ok (.iload_n 0, 1) := by decide +kernel
theorem dJ6_bitCount_0f7a4_26 : decode cJ6_bitCount_0f7a4 26 = .ok (.iconst 4, 1) := by decide +kernel
theorem dJ6_bitCount_0f7a4_27 : decode cJ6_bitCount_0f7a4 27 = .ok (.iushr, 1) := by decide +kernel
theorem dJ6_bitCount_0f7a4_28 : decode cJ6_bitCount_0f7a4 28 = .ok (.iadd, 1) := by decide +kernel
theorem dJ6_bitCount_0f7a4_29 : decode cJ6_bitCount_0f7a4 29 = .ok (.ldc_w 267, 3) := by decide +kernel
theorem dJ6_bitCount_0f7a4_32 : decode cJ6_bitCount_0f7a4 32 = .ok (.iand, 1) := by decide +kernel
theorem dJ6_bitCount_0f7a4_33 : decode cJ6_bitCount_0f7a4 33 = .ok (.istore_n 0, 1) := by decide +kernel
theorem dJ6_bitCount_0f7a4_34 : decode cJ6_bitCount_0f7a4 34 = .ok (.iload_n 0, 1) := by decide +kernel
theorem dJ6_bitCount_0f7a4_35 : decode cJ6_bitCount_0f7a4 35 = .ok (.iload_n 0, 1) := by decide +kernel
theorem dJ6_bitCount_0f7a4_36 : decode cJ6_bitCount_0f7a4 36 = .ok (.bipush 8, 2) := by decide +kernel
theorem dJ6_bitCount_0f7a4_38 : decode cJ6_bitCount_0f7a4 38 = .ok (.iushr, 1) := by decide +kernel
theorem dJ6_bitCount_0f7a4_39 : decode cJ6_bitCount_0f7a4 39 = .ok (.iadd, 1) := by decide +kernel
theorem dJ6_bitCount_0f7a4_40 : decode cJ6_bitCount_0f7a4 40 = .ok (.istore_n 0, 1) := by decide +kernel
theorem dJ6_bitCount_0f7a4_41 : decode cJ6_bitCount_0f7a4 41 = .ok (.iload_n 0, 1) := by decide +kernel
theorem dJ6_bitCount_0f7a4_42 : decode cJ6_bitCount_0f7a4 42 = .ok (.iload_n 0, 1) := by decide +kernel
theorem dJ6_bitCount_0f7a4_43 : decode cJ6_bitCount_0f7a4 43 = .ok (.bipush 16, 2) := by decide +kernel
theorem dJ6_bitCount_0f7a4_45 : decode cJ6_bitCount_0f7a4 45 = .ok (.iushr, 1) := by decide +kernel
theorem dJ6_bitCount_0f7a4_46 : decode cJ6_bitCount_0f7a4 46 = .ok (.iadd, 1) := by decide +kernel
theorem dJ6_bitCount_0f7a4_47 : decode cJ6_bitCount_0f7a4 47 = .ok (.istore_n 0, 1) := by decide +kernel
theorem dJ6_bitCount_0f7a4_48 : decode cJ6_bitCount_0f7a4 48 = .ok (.iload_n 0, 1) := by decide +kernel
theorem dJ6_bitCount_0f7a4_49 : decode cJ6_bitCount_0f7a4 49 = .ok (.bipush 63, 2) := by decide +kernel
theorem dJ6_bitCount_0f7a4_51 : decode cJ6_bitCount_0f7a4 51 = .ok (.iand, 1) := by decide +kernel
theorem dJ6_bitCount_0f7a4_52 : decode cJ6_bitCount_0f7a4 52 = .ok (.ireturn, 1) := by decide +kernel
theorem dJ9_min_7cf53_0 : decode cJ9_min_7cf53 0 = .ok (.iload_n 0, 1) := by decide +kernel
theorem dJ9_min_7cf53_1 : decode cJ9_min_7cf53 1 = .ok (.iload_n 1, 1) := by decide +kernel
theorem dJ9_min_7cf53_2 : decode cJ9_min_7cf53 2 = .ok (.if_icmp .gt 7, 3) := by decide +kernel
theorem dJ9_min_7cf53_5 : decode cJ9_min_7cf53 5 = .ok (.iload_n 0, 1) := by decide +kernel
theorem dJ9_min_7cf53_6 : decode cJ9_min_7cf53 6 = .ok (.goto 4, 3) := by decide +kernel
theorem dJ9_min_7cf53_9 : decode cJ9_min_7cf53 9 = .ok (.iload_n 1, 1) := by decide +kernel
theorem dJ9_min_7cf53_10 : decode cJ9_min_7cf53 10 = .ok (.ireturn, 1) := by decide +kernel
theorem dX0_init_0 : decode cX0_init 0 = .ok (.aload_n 0, 1) := by decide +kernel
theorem dX0_init_1 : decode cX0_init 1 = .ok (.invokespecial 3, 3) := by decide +kernel
theorem dX0_init_4 : decode cX0_init 4 = .ok (.aload_n 0, 1) := by decide +kernel
theorem dX0_init_5 : decode cX0_init 5 = .ok (.bipush 8, 2) := by decide +kernel
theorem dX0_init_7 : decode cX0_init 7 = .ok (.newarray .int, 2) := by decide +kernel
theorem dX0_init_9 : decode cX0_init 9 = .ok (.putfield 9, 3) := by decide +kernel
theorem dX0_init_12 : decode cX0_init 12 = .ok (.aload_n 0, 1) := by decide +kernel
theorem dX0_init_13 : decode cX0_init 13 = .ok (.bipush 8, 2) := by decide +kernel
theorem dX0_init_15 : decode cX0_init 15 = .ok (.newarray .int, 2) := by decide +kernel
theorem dX0_init_17 : decode cX0_init 17 = .ok (.putfield 15, 3) := by decide +kernel
theorem dX0_init_20 : decode cX0_init 20 = .ok (.aload_n 0, 1) := by decide +kernel
theorem dX0_init_21 : decode cX0_init 21 = .ok (.bipush 16, 2) := by decide +kernel
theorem dX0_init_23 : decode cX0_init 23 = .ok (.newarray .int, 2) := by decide +kernel
theorem dX0_init_25 : decode cX0_init 25 = .ok (.putfield 18, 3) := by decide +kernel
theorem dX0_init_28 : decode cX0_init 28 = .ok (.aload_n 0, 1) := by decide +kernel
theorem dX0_init_29 : decode cX0_init 29 = .ok (.iconst 0, 1) := by decide +kernel
theorem dX0_init_30 : decode cX0_init 30 = .ok (.putfield 21, 3) := by decide +kernel
theorem dX0_init_33 : decode cX0_init 33 = .ok (.aload_n 0, 1) := by decide +kernel
theorem dX0_init_34 : decode cX0_init 34 = .ok (.iconst 0, 1) := by decide +kernel
theorem dX0_init_35 : decode cX0_init 35 = .ok (.putfield 25, 3) := by decide +kernel
theorem dX0_init_38 : decode cX0_init 38 = .ok (.return_, 1) := by decide +kernel
theorem dX0_merge_0 : decode cX0_merge 0 = .ok (.iconst 0, 1) := by decide +kernel
theorem dX0_merge_1 : decode cX0_merge 1 = .ok (.istore_n 2, 1) := by decide +kernel
theorem dX0_merge_2 : decode cX0_merge 2 = .ok (.iload_n 2, 1) := by decide +kernel
theorem dX0_merge_3 : decode cX0_merge 3 = .ok (.aload_n 1, 1) := by decide +kernel
theorem dX0_merge_4 : decode cX0_merge 4 = .ok (.getfield 28, 3) := by decide +kernel
theorem dX0_merge_7 : decode cX0_merge 7 = .ok (.getfield 34, 3) := by decide +kernel
theorem dX0_merge_10 : decode cX0_merge 10 = .ok (.if_icmp .ge 23, 3) := by decide +kernel
theorem dX0_merge_13 : decode cX0_merge 13 = .ok (.aload_n 0, 1) := by decide +kernel
theorem dX0_merge_14 : decode cX0_merge 14 = .ok (.getfield 9, 3) := by decide +kernel
theorem dX0_merge_17 : decode cX0_merge 17 = .ok (.iload_n 2, 1) := by decide +kernel
theorem dX0_merge_18 : decode cX0_merge 18 = .ok (.iload_n 2, 1) := by decide +kernel
theorem dX0_merge_19 : decode cX0_merge 19 = .ok (.iastore, 1) := by decide +kernel
theorem dX0_merge_20 : decode cX0_merge 20 = .ok (.aload_n 0, 1) := by decide +kernel
theorem dX0_merge_21 : decode cX0_merge 21 = .ok (.getfield 15, 3) := by decide +kernel
theorem dX0_merge_24 : decode cX0_merge 24 = .ok (.iload_n 2, 1) := by decide +kernel
theorem dX0_merge_25 : decode cX0_merge 25 = .ok (.iconst (-1), 1) := by decide +kernel
theorem dX0_merge_26 : decode cX0_merge 26 = .ok (.iastore, 1) := by decide +kernel
theorem dX0_merge_27 : decode cX0_merge 27 = .ok (.iinc 2 1, 3) := by decide +kernel
theorem dX0_merge_30 : decode cX0_merge 30 = .ok (.goto (-28), 3) := by decide +kernel
theorem dX0_merge_33 : decode cX0_merge 33 = .ok (.aload_n 0, 1) := by decide +kernel
theorem dX0_merge_34 : decode cX0_merge 34 = .ok (.aload_n 1, 1) := by decide +kernel
theorem dX0_merge_35 : decode cX0_merge 35 = .ok (.invokevirtual 39, 3) := by decide +kernel
theorem dX0_merge_38 : decode cX0_merge 38 = .ok (.iconst 0, 1) := by decide +kernel
theorem dX0_merge_39 : decode cX0_merge 39 = .ok (.istore_n 2, 1) := by decide +kernel
theorem dX0_merge_40 : decode cX0_merge 40 = .ok (.iload_n 2, 1) := by decide +kernel
theorem dX0_merge_41 : decode cX0_merge 41 = .ok (.aload_n 0, 1) := by decide +kernel
theorem dX0_merge_42 : decode cX0_merge 42 = .ok (.getfield 21, 3) := by decide +kernel
theorem dX0_merge_45 : decode cX0_merge 45 = .ok (.if_icmp .ge 35, 3) := by decide +kernel
theorem dX0_merge_48 : decode cX0_merge 48 = .ok (.aload_n 0, 1) := by decide +kernel
theorem dX0_merge_49 : decode cX0_merge 49 = .ok (.getfield 18, 3) := by decide +kernel
theorem dX0_merge_52 : decode cX0_merge 52 = .ok (.iload_n 2, 1) := by decide +kernel
theorem dX0_merge_53 : decode cX0_merge 53 = .ok (.iaload, 1) := by decide +kernel
theorem dX0_merge_54 : decode cX0_merge 54 = .ok (.iconst 2, 1) := by decide +kernel
theorem dX0_merge_55 : decode cX0_merge 55 = .ok (.idiv, 1) := by decide +kernel
theorem dX0_merge_56 : decode cX0_merge 56 = .ok (.istore_n 3, 1) := by decide +kernel
theorem dX0_merge_57 : decode cX0_merge 57 = .ok (.aload_n 0, 1) := by decide +kernel
theorem dX0_merge_58 : decode cX0_merge 58 = .ok (.aload_n 1, 1) := by decide +kernel
theorem dX0_merge_59 : decode cX0_merge 59 = .ok (.iload_n 3, 1) := by decide +kernel
theorem dX0_merge_60 : decode cX0_merge 60 = .ok (.aload_n 1, 1) := by decide +kernel
theorem dX0_merge_61 : decode cX0_merge 61 = .ok (.getfield 43, 3) := by decide +kernel
theorem dX0_merge_64 : decode cX0_merge 64 = .ok (.aload_n 0, 1) := by decide +kernel
theorem dX0_merge_65 : decode cX0_merge 65 = .ok (.getfield 18, 3) := by decide +kernel
theorem dX0_merge_68 : decode cX0_merge 68 = .ok (.iload_n 2, 1) := by decide +kernel
theorem dX0_merge_69 : decode cX0_merge 69 = .ok (.iaload, 1) := by decide +kernel
theorem dX0_merge_70 : decode cX0_merge 70 = .ok (.iaload, 1) := by decide +kernel
theorem dX0_merge_71 : decode cX0_merge 71 = .ok (.invokevirtual 46, 3) := by decide +kernel
theorem dX0_merge_74 : decode cX0_merge 74 = .ok (.iinc 2 1, 3) := by decide +kernel
theorem dX0_merge_77 : decode cX0_merge 77 = .ok (.goto (-37), 3) := by decide +kernel
theorem dX0_merge_80 : decode cX0_merge 80 = .ok (.return_, 1) := by decide +kernel
theorem dX0_sortEdges_0 : decode cX0_sortEdges 0 = .ok (.aload_n 0, 1) := by decide +kernel
theorem dX0_sortEdges_1 : decode cX0_sortEdges 1 = .ok (.iconst 0, 1) := by decide +kernel
theorem dX0_sortEdges_2 : decode cX0_sortEdges 2 = .ok (.putfield 21, 3) := by decide +kernel
theorem dX0_sortEdges_5 : decode cX0_sortEdges 5 = .ok (.iconst 0, 1) := by decide +kernel
theorem dX0_sortEdges_6 : decode cX0_sortEdges 6 = .ok (.istore_n 2, 1) := by decide +kernel
theorem dX0_sortEdges_7 : decode cX0_sortEdges 7 = .ok (.iload_n 2, 1) := by decide +kernel
theorem dX0_sortEdges_8 : decode cX0_sortEdges 8 = .ok (.aload_n 1, 1) := by decide +kernel
theorem dX0_sortEdges_9 : decode cX0_sortEdges 9 = .ok (.getfield 28, 3) := by decide +kernel
theorem dX0_sortEdges_12 : decode cX0_sortEdges 12 = .ok (.getfield 34, 3) := by decide +kernel
theorem dX0_sortEdges_15 : decode cX0_sortEdges 15 = .ok (.if_icmp .ge 46, 3) := by decide +kernel
theorem dX0_sortEdges_18 : decode cX0_sortEdges 18 = .ok (.iconst 0, 1) := by decide +kernel
theorem dX0_sortEdges_19 : decode cX0_sortEdges 19 = .ok (.istore_n 3, 1) := by decide +kernel
theorem dX0_sortEdges_20 : decode cX0_sortEdges 20 = .ok (.iload_n 3, 1) := by decide +kernel
theorem dX0_sortEdges_21 : decode cX0_sortEdges 21 = .ok (.aload_n 1, 1) := by decide +kernel
theorem dX0_sortEdges_22 : decode cX0_sortEdges 22 = .ok (.getfield 50, 3) := by decide +kernel
theorem dX0_sortEdges_25 : decode cX0_sortEdges 25 = .ok (.iload_n 2, 1) := by decide +kernel
theorem dX0_sortEdges_26 : decode cX0_sortEdges 26 = .ok (.iaload, 1) := by decide +kernel
theorem dX0_sortEdges_27 : decode cX0_sortEdges 27 = .ok (.if_icmp .ge 28, 3) := by decide +kernel
theorem dX0_sortEdges_30 : decode cX0_sortEdges 30 = .ok (.aload_n 1, 1) := by decide +kernel
theorem dX0_sortEdges_31 : decode cX0_sortEdges 31 = .ok (.iload_n 2, 1) := by decide +kernel
theorem dX0_sortEdges_32 : decode cX0_sortEdges 32 = .ok (.iload_n 3, 1) := by decide +kernel
theorem dX0_sortEdges_33 : decode cX0_sortEdges 33 = .ok (.invokevirtual 53, 3) := by decide +kernel
theorem dX0_sortEdges_36 : decode cX0_sortEdges 36 = .ok (.ifCond .le 13, 3) := by decide +kernel
theorem dX0_sortEdges_39 : decode cX0_sortEdges 39 = .ok (.aload_n 0, 1) := by decide +kernel
theorem dX0_sortEdges_40 : decode cX0_sortEdges 40 = .ok (.aload_n 1, 1) := by decide +kernel
theorem dX0_sortEdges_41 : decode cX0_sortEdges 41 = .ok (.iconst 2, 1) := by decide +kernel
theorem dX0_sortEdges_42 : decode cX0_sortEdges 42 = .ok (.iload_n 2, 1) := by decide +kernel
theorem dX0_sortEdges_43 : decode cX0_sortEdges 43 = .ok (.imul, 1) := by decide +kernel
theorem dX0_sortEdges_44 : decode cX0_sortEdges 44 = .ok (.iload_n 3, 1) := by decide +kernel
theorem dX0_sortEdges_45 : decode cX0_sortEdges 45 = .ok (.iadd, 1) := by decide +kernel
theorem dX0_sortEdges_46 : decode cX0_sortEdges 46 = .ok (.invokevirtual 57, 3) := by decide +kernel
theorem dX0_sortEdges_49 : decode cX0_sortEdges 49 = .ok (.iinc 3 1, 3) := by decide +kernel
theorem dX0_sortEdges_52 : decode cX0_sortEdges 52 = .ok (.goto (-32), 3) := by decide +kernel
theorem dX0_sortEdges_55 : decode cX0_sortEdges 55 = .ok (.iinc 2 1, 3) := by decide +kernel
theorem dX0_sortEdges_58 : decode cX0_sortEdges 58 = .ok (.goto (-51), 3) := by decide +kernel
theorem dX0_sortEdges_61 : decode cX0_sortEdges 61 = .ok (.return_, 1) := by decide +kernel
theorem dX0_insertEdge_0 : decode cX0_insertEdge 0 = .ok (.aload_n 0, 1) := by decide +kernel
theorem dX0_insertEdge_1 : decode cX0_insertEdge 1 = .ok (.getfield 21, 3) := by decide +kernel
theorem dX0_insertEdge_4 : decode cX0_insertEdge 4 = .ok (.istore_n 3, 1) := by decide +kernel
theorem dX0_insertEdge_5 : decode cX0_insertEdge 5 = .ok (.iload_n 3, 1) := by decide +kernel
theorem dX0_insertEdge_6 : decode cX0_insertEdge 6 = .ok (.ifCond .le 45, 3) := by decide +kernel
theorem dX0_insertEdge_9 : decode cX0_insertEdge 9 = .ok (.aload_n 1, 1) := by decide +kernel
theorem dX0_insertEdge_10 : decode cX0_insertEdge 10 = .ok (.getfield 61, 3) := by decide +kernel
theorem dX0_insertEdge_13 : decode cX0_insertEdge 13 = .ok (.aload_n 0, 1) := by decide +kernel
theorem dX0_insertEdge_14 : decode cX0_insertEdge 14 = .ok (.getfield 18, 3) := by decide +kernel
theorem dX0_insertEdge_17 : decode cX0_insertEdge 17 = .ok (.iload_n 3, 1) := by decide +kernel
theorem dX0_insertEdge_18 : decode cX0_insertEdge 18 = .ok (.iconst 1, 1) := by decide +kernel
theorem dX0_insertEdge_19 : decode cX0_insertEdge 19 = .ok (.isub, 1) := by decide +kernel
theorem dX0_insertEdge_20 : decode cX0_insertEdge 20 = .ok (.iaload, 1) := by decide +kernel
theorem dX0_insertEdge_21 : decode cX0_insertEdge 21 = .ok (.iaload, 1) := by decide +kernel
theorem dX0_insertEdge_22 : decode cX0_insertEdge 22 = .ok (.aload_n 1, 1) := by decide +kernel
theorem dX0_insertEdge_23 : decode cX0_insertEdge 23 = .ok (.getfield 61, 3) := by decide +kernel
theorem dX0_insertEdge_26 : decode cX0_insertEdge 26 = .ok (.iload_n 2, 1) := by decide +kernel
theorem dX0_insertEdge_27 : decode cX0_insertEdge 27 = .ok (.iaload, 1) := by decide +kernel
theorem dX0_insertEdge_28 : decode cX0_insertEdge 28 = .ok (.if_icmp .ge 23, 3) := by decide +kernel
theorem dX0_insertEdge_31 : decode cX0_insertEdge 31 = .ok (.aload_n 0, 1) := by decide +kernel
theorem dX0_insertEdge_32 : decode cX0_insertEdge 32 = .ok (.getfield 18, 3) := by decide +kernel
theorem dX0_insertEdge_35 : decode cX0_insertEdge 35 = .ok (.iload_n 3, 1) := by decide +kernel
theorem dX0_insertEdge_36 : decode cX0_insertEdge 36 = .ok (.aload_n 0, 1) := by decide +kernel
theorem dX0_insertEdge_37 : decode cX0_insertEdge 37 = .ok (.getfield 18, 3) := by decide +kernel
theorem dX0_insertEdge_40 : decode cX0_insertEdge 40 = .ok (.iload_n 3, 1) := by decide +kernel
theorem dX0_insertEdge_41 : decode cX0_insertEdge 41 = .ok (.iconst 1, 1) := by decide +kernel
theorem dX0_insertEdge_42 : decode cX0_insertEdge 42 = .ok (.isub, 1) := by decide +kernel
theorem dX0_insertEdge_43 : decode cX0_insertEdge 43 = .ok (.iaload, 1) := by decide +kernel
theorem dX0_insertEdge_44 : decode cX0_insertEdge 44 = .ok (.iastore, 1) := by decide +kernel
theorem dX0_insertEdge_45 : decode cX0_insertEdge 45 = .ok (.iinc 3 (-1), 3) := by decide +kernel
theorem dX0_insertEdge_48 : decode cX0_insertEdge 48 = .ok (.goto (-43), 3) := by decide +kernel
theorem dX0_insertEdge_51 : decode cX0_insertEdge 51 = .ok (.aload_n 0, 1) := by decide +kernel
theorem dX0_insertEdge_52 : decode cX0_insertEdge 52 = .ok (.getfield 18, 3) := by decide +kernel
theorem dX0_insertEdge_55 : decode cX0_insertEdge 55 = .ok (.iload_n 3, 1) := by decide +kernel
theorem dX0_insertEdge_56 : decode cX0_insertEdge 56 = .ok (.iload_n 2, 1) := by decide +kernel
theorem dX0_insertEdge_57 : decode cX0_insertEdge 57 = .ok (.iastore, 1) := by decide +kernel
theorem dX0_insertEdge_58 : decode cX0_insertEdge 58 = .ok (.aload_n 0, 1) := by decide +kernel
theorem dX0_insertEdge_59 : decode cX0_insertEdge 59 = .ok (.dup, 1) := by decide +kernel
theorem dX0_insertEdge_60 : decode cX0_insertEdge 60 = .ok (.getfield 21, 3) := by decide +kernel
theorem dX0_insertEdge_63 : decode cX0_insertEdge 63 = .ok (.iconst 1, 1) := by decide +kernel
theorem dX0_insertEdge_64 : decode cX0_insertEdge 64 = .ok (.iadd, 1) := by decide +kernel
theorem dX0_insertEdge_65 : decode cX0_insertEdge 65 = .ok (.putfield 21, 3) := by decide +kernel
theorem dX0_insertEdge_68 : decode cX0_insertEdge 68 = .ok (.return_, 1) := by decide +kernel
theorem dX0_joinBehind_0 : decode cX0_joinBehind 0 = .ok (.aload_n 0, 1) := by decide +kernel
theorem dX0_joinBehind_1 : decode cX0_joinBehind 1 = .ok (.getfield 15, 3) := by decide +kernel
theorem dX0_joinBehind_4 : decode cX0_joinBehind 4 = .ok (.iload_n 2, 1) := by decide +kernel
theorem dX0_joinBehind_5 : decode cX0_joinBehind 5 = .ok (.iaload, 1) := by decide +kernel
theorem dX0_joinBehind_6 : decode cX0_joinBehind 6 = .ok (.iconst (-1), 1) := by decide +kernel
theorem dX0_joinBehind_7 : decode cX0_joinBehind 7 = .ok (.if_icmp .ne 31, 3) := by decide +kernel
theorem dX0_joinBehind_10 : decode cX0_joinBehind 10 = .ok (.aload_n 0, 1) := by decide +kernel
theorem dX0_joinBehind_11 : decode cX0_joinBehind 11 = .ok (.getfield 9, 3) := by decide +kernel
theorem dX0_joinBehind_14 : decode cX0_joinBehind 14 = .ok (.iload_n 3, 1) := by decide +kernel
theorem dX0_joinBehind_15 : decode cX0_joinBehind 15 = .ok (.iaload, 1) := by decide +kernel
theorem dX0_joinBehind_16 : decode cX0_joinBehind 16 = .ok (.iload_n 3, 1) := by decide +kernel
theorem dX0_joinBehind_17 : decode cX0_joinBehind 17 = .ok (.if_icmp .ne 21, 3) := by decide +kernel
theorem dX0_joinBehind_20 : decode cX0_joinBehind 20 = .ok (.aload_n 0, 1) := by decide +kernel
theorem dX0_joinBehind_21 : decode cX0_joinBehind 21 = .ok (.getfield 9, 3) := by decide +kernel
theorem dX0_joinBehind_24 : decode cX0_joinBehind 24 = .ok (.iload_n 2, 1) := by decide +kernel
theorem dX0_joinBehind_25 : decode cX0_joinBehind 25 = .ok (.iaload, 1) := by decide +kernel
theorem dX0_joinBehind_26 : decode cX0_joinBehind 26 = .ok (.iload_n 3, 1) := by decide +kernel
theorem dX0_joinBehind_27 : decode cX0_joinBehind 27 = .ok (.if_icmp .eq 11, 3) := by decide +kernel
theorem dX0_joinBehind_30 : decode cX0_joinBehind 30 = .ok (.iload_n 3, 1) := by decide +kernel
theorem dX0_joinBehind_31 : decode cX0_joinBehind 31 = .ok (.ifCond .eq 7, 3) := by decide +kernel
theorem dX0_joinBehind_34 : decode cX0_joinBehind 34 = .ok (.iconst 1, 1) := by decide +kernel
theorem dX0_joinBehind_35 : decode cX0_joinBehind 35 = .ok (.goto 4, 3) := by decide +kernel
theorem dX0_joinBehind_38 : decode cX0_joinBehind 38 = .ok (.iconst 0, 1) := by decide +kernel
theorem dX0_joinBehind_39 : decode cX0_joinBehind 39 = .ok (.istore 4, 2) := by decide +kernel
theorem dX0_joinBehind_41 : decode cX0_joinBehind 41 = .ok (.iload 4, 2) := by decide +kernel
theorem dX0_joinBehind_43 : decode cX0_joinBehind 43 = .ok (.ifCond .ne 4, 3) := by decide +kernel
theorem dX0_joinBehind_46 : decode cX0_joinBehind 46 = .ok (.return_, 1) := by decide +kernel
theorem dX0_joinBehind_47 : decode cX0_joinBehind 47 = .ok (.aload_n 0, 1) := by decide +kernel
theorem dX0_joinBehind_48 : decode cX0_joinBehind 48 = .ok (.getfield 15, 3) := by decide +kernel
theorem dX0_joinBehind_51 : decode cX0_joinBehind 51 = .ok (.iload_n 2, 1) := by decide +kernel
theorem dX0_joinBehind_52 : decode cX0_joinBehind 52 = .ok (.iload_n 3, 1) := by decide +kernel
theorem dX0_joinBehind_53 : decode cX0_joinBehind 53 = .ok (.iastore, 1) := by decide +kernel
theorem dX0_joinBehind_54 : decode cX0_joinBehind 54 = .ok (.iconst 0, 1) := by decide +kernel
theorem dX0_joinBehind_55 : decode cX0_joinBehind 55 = .ok (.istore 5, 2) := by decide +kernel
theorem dX0_joinBehind_57 : decode cX0_joinBehind 57 = .ok (.iload 5, 2) := by decide +kernel
theorem dX0_joinBehind_59 : decode cX0_joinBehind 59 = .ok (.aload_n 1, 1) := by decide +kernel
theorem dX0_joinBehind_60 : decode cX0_joinBehind 60 = .ok (.getfield 28, 3) := by decide +kernel
theorem dX0_joinBehind_63 : decode cX0_joinBehind 63 = .ok (.getfield 34, 3) := by decide +kernel
theorem dX0_joinBehind_66 : decode cX0_joinBehind 66 = .ok (.if_icmp .ge 33, 3) := by decide +kernel
theorem dX0_joinBehind_69 : decode cX0_joinBehind 69 = .ok (.aload_n 0, 1) := by decide +kernel
theorem dX0_joinBehind_70 : decode cX0_joinBehind 70 = .ok (.getfield 9, 3) := by decide +kernel
theorem dX0_joinBehind_73 : decode cX0_joinBehind 73 = .ok (.iload 5, 2) := by decide +kernel
theorem dX0_joinBehind_75 : decode cX0_joinBehind 75 = .ok (.iaload, 1) := by decide +kernel
theorem dX0_joinBehind_76 : decode cX0_joinBehind 76 = .ok (.iload_n 3, 1) := by decide +kernel
theorem dX0_joinBehind_77 : decode cX0_joinBehind 77 = .ok (.if_icmp .ne 16, 3) := by decide +kernel
theorem dX0_joinBehind_80 : decode cX0_joinBehind 80 = .ok (.aload_n 0, 1) := by decide +kernel
theorem dX0_joinBehind_81 : decode cX0_joinBehind 81 = .ok (.getfield 9, 3) := by decide +kernel
theorem dX0_joinBehind_84 : decode cX0_joinBehind 84 = .ok (.iload 5, 2) := by decide +kernel
theorem dX0_joinBehind_86 : decode cX0_joinBehind 86 = .ok (.aload_n 0, 1) := by decide +kernel
theorem dX0_joinBehind_87 : decode cX0_joinBehind 87 = .ok (.getfield 9, 3) := by decide +kernel
theorem dX0_joinBehind_90 : decode cX0_joinBehind 90 = .ok (.iload_n 2, 1) := by decide +kernel
theorem dX0_joinBehind_91 : decode cX0_joinBehind 91 = .ok (.iaload, 1) := by decide +kernel
theorem dX0_joinBehind_92 : decode cX0_joinBehind 92 = .ok (.iastore, 1) := by decide +kernel
theorem dX0_joinBehind_93 : decode cX0_joinBehind 93 = .ok (.iinc 5 1, 3) := by decide +kernel
theorem dX0_joinBehind_96 : decode cX0_joinBehind 96 = .ok (.goto (-39), 3) := by decide +kernel
theorem dX0_joinBehind_99 : decode cX0_joinBehind 99 = .ok (.return_, 1) := by decide +kernel
theorem dX0_arrange_0 : decode cX0_arrange 0 = .ok (.aload_n 0, 1) := by decide +kernel
theorem dX0_arrange_1 : decode cX0_arrange 1 = .ok (.iconst 0, 1) := by decide +kernel
theorem dX0_arrange_2 : decode cX0_arrange 2 = .ok (.putfield 25, 3) := by decide +kernel
theorem dX0_arrange_5 : decode cX0_arrange 5 = .ok (.aload_n 0, 1) := by decide +kernel
theorem dX0_arrange_6 : decode cX0_arrange 6 = .ok (.aload_n 1, 1) := by decide +kernel
theorem dX0_arrange_7 : decode cX0_arrange 7 = .ok (.iconst 0, 1) := by decide +kernel
theorem dX0_arrange_8 : decode cX0_arrange 8 = .ok (.iconst 0, 1) := by decide +kernel
theorem dX0_arrange_9 : decode cX0_arrange 9 = .ok (.invokevirtual 64, 3) := by decide +kernel
theorem dX0_arrange_12 : decode cX0_arrange 12 = .ok (.istore_n 2, 1) := by decide +kernel
theorem dX0_arrange_13 : decode cX0_arrange 13 = .ok (.iconst 1, 1) := by decide +kernel
theorem dX0_arrange_14 : decode cX0_arrange 14 = .ok (.istore_n 3, 1) := by decide +kernel
theorem dX0_arrange_15 : decode cX0_arrange 15 = .ok (.iload_n 3, 1) := by decide +kernel
theorem dX0_arrange_16 : decode cX0_arrange 16 = .ok (.aload_n 1, 1) := by decide +kernel
theorem dX0_arrange_17 : decode cX0_arrange 17 = .ok (.getfield 28, 3) := by decide +kernel
theorem dX0_arrange_20 : decode cX0_arrange 20 = .ok (.getfield 34, 3) := by decide +kernel
theorem dX0_arrange_23 : decode cX0_arrange 23 = .ok (.if_icmp .ge 32, 3) := by decide +kernel
theorem dX0_arrange_26 : decode cX0_arrange 26 = .ok (.iload_n 2, 1) := by decide +kernel
theorem dX0_arrange_27 : decode cX0_arrange 27 = .ok (.aload_n 1, 1) := by decide +kernel
theorem dX0_arrange_28 : decode cX0_arrange 28 = .ok (.getfield 28, 3) := by decide +kernel
theorem dX0_arrange_31 : decode cX0_arrange 31 = .ok (.getfield 34, 3) := by decide +kernel
theorem dX0_arrange_34 : decode cX0_arrange 34 = .ok (.if_icmp .ge 21, 3) := by decide +kernel
theorem dX0_arrange_37 : decode cX0_arrange 37 = .ok (.aload_n 0, 1) := by decide +kernel
theorem dX0_arrange_38 : decode cX0_arrange 38 = .ok (.aload_n 1, 1) := by decide +kernel
theorem dX0_arrange_39 : decode cX0_arrange 39 = .ok (.aload_n 0, 1) := by decide +kernel
theorem dX0_arrange_40 : decode cX0_arrange 40 = .ok (.aload_n 1, 1) := by decide +kernel
theorem dX0_arrange_41 : decode cX0_arrange 41 = .ok (.invokevirtual 68, 3) := by decide +kernel
theorem dX0_arrange_44 : decode cX0_arrange 44 = .ok (.iload_n 2, 1) := by decide +kernel
theorem dX0_arrange_45 : decode cX0_arrange 45 = .ok (.invokevirtual 64, 3) := by decide +kernel
theorem dX0_arrange_48 : decode cX0_arrange 48 = .ok (.istore_n 2, 1) := by decide +kernel
theorem dX0_arrange_49 : decode cX0_arrange 49 = .ok (.iinc 3 1, 3) := by decide +kernel
theorem dX0_arrange_52 : decode cX0_arrange 52 = .ok (.goto (-37), 3) := by decide +kernel
theorem dX0_arrange_55 : decode cX0_arrange 55 = .ok (.aload_n 1, 1) := by decide +kernel
theorem dX0_arrange_56 : decode cX0_arrange 56 = .ok (.aload_n 1, 1) := by decide +kernel
theorem dX0_arrange_57 : decode cX0_arrange 57 = .ok (.getfield 28, 3) := by decide +kernel
theorem dX0_arrange_60 : decode cX0_arrange 60 = .ok (.getfield 34, 3) := by decide +kernel
theorem dX0_arrange_63 : decode cX0_arrange 63 = .ok (.putfield 72, 3) := by decide +kernel
theorem dX0_arrange_66 : decode cX0_arrange 66 = .ok (.return_, 1) := by decide +kernel
theorem dX0_placeChain_0 : decode cX0_placeChain 0 = .ok (.iload_n 3, 1) := by decide +kernel
theorem dX0_placeChain_1 : decode cX0_placeChain 1 = .ok (.istore 4, 2) := by decide +kernel
theorem dX0_placeChain_3 : decode cX0_placeChain 3 = .ok (.iload_n 2, 1) := by decide +kernel
theorem dX0_placeChain_4 : decode cX0_placeChain 4 = .ok (.istore 5, 2) := by decide +kernel
theorem dX0_placeChain_6 : decode cX0_placeChain 6 = .ok (.iload 5, 2) := by decide +kernel
theorem dX0_placeChain_8 : decode cX0_placeChain 8 = .ok (.iconst (-1), 1) := by decide +kernel
theorem dX0_placeChain_9 : decode cX0_placeChain 9 = .ok (.if_icmp .eq 52, 3) := by decide +kernel
theorem dX0_placeChain_12 : decode cX0_placeChain 12 = .ok (.iload 4, 2) := by decide +kernel
theorem dX0_placeChain_14 : decode cX0_placeChain 14 = .ok (.aload_n 1, 1) := by decide +kernel
theorem dX0_placeChain_15 : decode cX0_placeChain 15 = .ok (.getfield 28, 3) := by decide +kernel
theorem dX0_placeChain_18 : decode cX0_placeChain 18 = .ok (.getfield 34, 3) := by decide +kernel
theorem dX0_placeChain_21 : decode cX0_placeChain 21 = .ok (.if_icmp .ge 40, 3) := by decide +kernel
theorem dX0_placeChain_24 : decode cX0_placeChain 24 = .ok (.aload_n 1, 1) := by decide +kernel
theorem dX0_placeChain_25 : decode cX0_placeChain 25 = .ok (.getfield 75, 3) := by decide +kernel
theorem dX0_placeChain_28 : decode cX0_placeChain 28 = .ok (.iload 4, 2) := by decide +kernel
theorem dX0_placeChain_30 : decode cX0_placeChain 30 = .ok (.iload 5, 2) := by decide +kernel
theorem dX0_placeChain_32 : decode cX0_placeChain 32 = .ok (.iastore, 1) := by decide +kernel
theorem dX0_placeChain_33 : decode cX0_placeChain 33 = .ok (.aload_n 0, 1) := by decide +kernel
theorem dX0_placeChain_34 : decode cX0_placeChain 34 = .ok (.dup, 1) := by decide +kernel
theorem dX0_placeChain_35 : decode cX0_placeChain 35 = .ok (.getfield 25, 3) := by decide +kernel
theorem dX0_placeChain_38 : decode cX0_placeChain 38 = .ok (.iconst 1, 1) := by decide +kernel
theorem dX0_placeChain_39 : decode cX0_placeChain 39 = .ok (.iload 5, 2) := by decide +kernel
theorem dX0_placeChain_41 : decode cX0_placeChain 41 = .ok (.ishl, 1) := by decide +kernel
theorem dX0_placeChain_42 : decode cX0_placeChain 42 = .ok (.ior, 1) := by decide +kernel
theorem dX0_placeChain_43 : decode cX0_placeChain 43 = .ok (.putfield 25, 3) := by decide +kernel
theorem dX0_placeChain_46 : decode cX0_placeChain 46 = .ok (.iinc 4 1, 3) := by decide +kernel
theorem dX0_placeChain_49 : decode cX0_placeChain 49 = .ok (.aload_n 0, 1) := by decide +kernel
theorem dX0_placeChain_50 : decode cX0_placeChain 50 = .ok (.getfield 15, 3) := by decide +kernel
theorem dX0_placeChain_53 : decode cX0_placeChain 53 = .ok (.iload 5, 2) := by decide +kernel
theorem dX0_placeChain_55 : decode cX0_placeChain 55 = .ok (.iaload, 1) := by decide +kernel
theorem dX0_placeChain_56 : decode cX0_placeChain 56 = .ok (.istore 5, 2) := by decide +kernel
theorem dX0_placeChain_58 : decode cX0_placeChain 58 = .ok (.goto (-52), 3) := by decide +kernel
theorem dX0_placeChain_61 : decode cX0_placeChain 61 = .ok (.iload 4, 2) := by decide +kernel
theorem dX0_placeChain_63 : decode cX0_placeChain 63 = .ok (.ireturn, 1) := by decide +kernel
theorem dX0_heaviestHead_0 : decode cX0_heaviestHead 0 = .ok (.iconst (-1), 1) := by decide +kernel
theorem dX0_heaviestHead_1 : decode cX0_heaviestHead 1 = .ok (.istore_n 2, 1) := by decide +kernel
theorem dX0_heaviestHead_2 : decode cX0_heaviestHead 2 = .ok (.iconst (-1), 1) := by decide +kernel
theorem dX0_heaviestHead_3 : decode cX0_heaviestHead 3 = .ok (.istore_n 3, 1) := by decide +kernel
theorem dX0_heaviestHead_4 : decode cX0_heaviestHead 4 = .ok (.iconst 0, 1) := by decide +kernel
theorem dX0_heaviestHead_5 : decode cX0_heaviestHead 5 = .ok (.istore 4, 2) := by decide +kernel
theorem dX0_heaviestHead_7 : decode cX0_heaviestHead 7 = .ok (.iload 4, 2) := by decide +kernel
theorem dX0_heaviestHead_9 : decode cX0_heaviestHead 9 = .ok (.aload_n 1, 1) := by decide +kernel
theorem dX0_heaviestHead_10 : decode cX0_heaviestHead 10 = .ok (.getfield 28, 3) := by decide +kernel
theorem dX0_heaviestHead_13 : decode cX0_heaviestHead 13 = .ok (.getfield 34, 3) := by decide +kernel
theorem dX0_heaviestHead_16 : decode cX0_heaviestHead 16 = .ok (.if_icmp .ge 51, 3) := by decide +kernel
theorem dX0_heaviestHead_19 : decode cX0_heaviestHead 19 = .ok (.aload_n 0, 1) := by decide +kernel
theorem dX0_heaviestHead_20 : decode cX0_heaviestHead 20 = .ok (.getfield 9, 3) := by decide +kernel
theorem dX0_heaviestHead_23 : decode cX0_heaviestHead 23 = .ok (.iload 4, 2) := by decide +kernel
theorem dX0_heaviestHead_25 : decode cX0_heaviestHead 25 = .ok (.iaload, 1) := by decide +kernel
theorem dX0_heaviestHead_26 : decode cX0_heaviestHead 26 = .ok (.iload 4, 2) := by decide +kernel
theorem dX0_heaviestHead_28 : decode cX0_heaviestHead 28 = .ok (.if_icmp .ne 33, 3) := by decide +kernel
theorem dX0_heaviestHead_31 : decode cX0_heaviestHead 31 = .ok (.aload_n 0, 1) := by decide +kernel
theorem dX0_heaviestHead_32 : decode cX0_heaviestHead 32 = .ok (.iload 4, 2) := by decide +kernel
theorem dX0_heaviestHead_34 : decode cX0_heaviestHead 34 = .ok (.invokevirtual 78, 3) := by decide +kernel
theorem dX0_heaviestHead_37 : decode cX0_heaviestHead 37 = .ok (.ifCond .ne 24, 3) := by decide +kernel
theorem dX0_heaviestHead_40 : decode cX0_heaviestHead 40 = .ok (.aload_n 0, 1) := by decide +kernel
theorem dX0_heaviestHead_41 : decode cX0_heaviestHead 41 = .ok (.aload_n 1, 1) := by decide +kernel
theorem dX0_heaviestHead_42 : decode cX0_heaviestHead 42 = .ok (.iload 4, 2) := by decide +kernel
theorem dX0_heaviestHead_44 : decode cX0_heaviestHead 44 = .ok (.invokevirtual 82, 3) := by decide +kernel
theorem dX0_heaviestHead_47 : decode cX0_heaviestHead 47 = .ok (.istore 5, 2) := by decide +kernel
theorem dX0_heaviestHead_49 : decode cX0_heaviestHead 49 = .ok (.iload 5, 2) := by decide +kernel
theorem dX0_heaviestHead_51 : decode cX0_heaviestHead 51 = .ok (.iload_n 3, 1) := by decide +kernel
theorem dX0_heaviestHead_52 : decode cX0_heaviestHead 52 = .ok (.if_icmp .le 9, 3) := by decide +kernel
theorem dX0_heaviestHead_55 : decode cX0_heaviestHead 55 = .ok (.iload 4, 2) := by decide +kernel
theorem dX0_heaviestHead_57 : decode cX0_heaviestHead 57 = .ok (.istore_n 2, 1) := by decide +kernel
theorem dX0_heaviestHead_58 : decode cX0_heaviestHead 58 = .ok (.iload 5, 2) := by decide +kernel
theorem dX0_heaviestHead_60 : decode cX0_heaviestHead 60 = .ok (.istore_n 3, 1) := by decide +kernel
theorem dX0_heaviestHead_61 : decode cX0_heaviestHead 61 = .ok (.iinc 4 1, 3) := by decide +kernel
theorem dX0_heaviestHead_64 : decode cX0_heaviestHead 64 = .ok (.goto (-57), 3) := by decide +kernel
theorem dX0_heaviestHead_67 : decode cX0_heaviestHead 67 = .ok (.iload_n 2, 1) := by decide +kernel
theorem dX0_heaviestHead_68 : decode cX0_heaviestHead 68 = .ok (.ireturn, 1) := by decide +kernel
theorem dX0_weightOf_0 : decode cX0_weightOf 0 = .ok (.iconst 0, 1) := by decide +kernel
theorem dX0_weightOf_1 : decode cX0_weightOf 1 = .ok (.istore_n 3, 1) := by decide +kernel
theorem dX0_weightOf_2 : decode cX0_weightOf 2 = .ok (.iconst 0, 1) := by decide +kernel
theorem dX0_weightOf_3 : decode cX0_weightOf 3 = .ok (.istore 4, 2) := by decide +kernel
theorem dX0_weightOf_5 : decode cX0_weightOf 5 = .ok (.iload 4, 2) := by decide +kernel
theorem dX0_weightOf_7 : decode cX0_weightOf 7 = .ok (.aload_n 1, 1) := by decide +kernel
theorem dX0_weightOf_8 : decode cX0_weightOf 8 = .ok (.getfield 28, 3) := by decide +kernel
theorem dX0_weightOf_11 : decode cX0_weightOf 11 = .ok (.getfield 34, 3) := by decide +kernel
theorem dX0_weightOf_14 : decode cX0_weightOf 14 = .ok (.if_icmp .ge 115, 3) := by decide +kernel
theorem dX0_weightOf_17 : decode cX0_weightOf 17 = .ok (.iconst 0, 1) := by decide +kernel
theorem dX0_weightOf_18 : decode cX0_weightOf 18 = .ok (.istore 5, 2) := by decide +kernel
theorem dX0_weightOf_20 : decode cX0_weightOf 20 = .ok (.iload 5, 2) := by decide +kernel
theorem dX0_weightOf_22 : decode cX0_weightOf 22 = .ok (.aload_n 1, 1) := by decide +kernel
theorem dX0_weightOf_23 : decode cX0_weightOf 23 = .ok (.getfield 50, 3) := by decide +kernel
theorem dX0_weightOf_26 : decode cX0_weightOf 26 = .ok (.iload 4, 2) := by decide +kernel
theorem dX0_weightOf_28 : decode cX0_weightOf 28 = .ok (.iaload, 1) := by decide +kernel
theorem dX0_weightOf_29 : decode cX0_weightOf 29 = .ok (.if_icmp .ge 94, 3) := by decide +kernel
theorem dX0_weightOf_32 : decode cX0_weightOf 32 = .ok (.aload_n 1, 1) := by decide +kernel
theorem dX0_weightOf_33 : decode cX0_weightOf 33 = .ok (.iload 4, 2) := by decide +kernel
theorem dX0_weightOf_35 : decode cX0_weightOf 35 = .ok (.iload 5, 2) := by decide +kernel
theorem dX0_weightOf_37 : decode cX0_weightOf 37 = .ok (.invokevirtual 86, 3) := by decide +kernel
theorem dX0_weightOf_40 : decode cX0_weightOf 40 = .ok (.istore 6, 2) := by decide +kernel
theorem dX0_weightOf_42 : decode cX0_weightOf 42 = .ok (.aload_n 0, 1) := by decide +kernel
theorem dX0_weightOf_43 : decode cX0_weightOf 43 = .ok (.iload 4, 2) := by decide +kernel
theorem dX0_weightOf_45 : decode cX0_weightOf 45 = .ok (.invokevirtual 78, 3) := by decide +kernel
theorem dX0_weightOf_48 : decode cX0_weightOf 48 = .ok (.ifCond .eq 18, 3) := by decide +kernel
theorem dX0_weightOf_51 : decode cX0_weightOf 51 = .ok (.aload_n 0, 1) := by decide +kernel
theorem dX0_weightOf_52 : decode cX0_weightOf 52 = .ok (.getfield 9, 3) := by decide +kernel
theorem dX0_weightOf_55 : decode cX0_weightOf 55 = .ok (.iload 6, 2) := by decide +kernel
theorem dX0_weightOf_57 : decode cX0_weightOf 57 = .ok (.iaload, 1) := by decide +kernel
theorem dX0_weightOf_58 : decode cX0_weightOf 58 = .ok (.iload_n 2, 1) := by decide +kernel
theorem dX0_weightOf_59 : decode cX0_weightOf 59 = .ok (.if_icmp .ne 7, 3) := by decide +kernel
theorem dX0_weightOf_62 : decode cX0_weightOf 62 = .ok (.iconst 1, 1) := by decide +kernel
theorem dX0_weightOf_63 : decode cX0_weightOf 63 = .ok (.goto 4, 3) := by decide +kernel
theorem dX0_weightOf_66 : decode cX0_weightOf 66 = .ok (.iconst 0, 1) := by decide +kernel
theorem dX0_weightOf_67 : decode cX0_weightOf 67 = .ok (.istore 7, 2) := by decide +kernel
theorem dX0_weightOf_69 : decode cX0_weightOf 69 = .ok (.aload_n 0, 1) := by decide +kernel
theorem dX0_weightOf_70 : decode cX0_weightOf 70 = .ok (.getfield 9, 3) := by decide +kernel
theorem dX0_weightOf_73 : decode cX0_weightOf 73 = .ok (.iload 4, 2) := by decide +kernel
theorem dX0_weightOf_75 : decode cX0_weightOf 75 = .ok (.iaload, 1) := by decide +kernel
theorem dX0_weightOf_76 : decode cX0_weightOf 76 = .ok (.iload_n 2, 1) := by decide +kernel
theorem dX0_weightOf_77 : decode cX0_weightOf 77 = .ok (.if_icmp .ne 16, 3) := by decide +kernel
theorem dX0_weightOf_80 : decode cX0_weightOf 80 = .ok (.aload_n 0, 1) := by decide +kernel
theorem dX0_weightOf_81 : decode cX0_weightOf 81 = .ok (.iload 6, 2) := by decide +kernel
theorem dX0_weightOf_83 : decode cX0_weightOf 83 = .ok (.invokevirtual 78, 3) := by decide +kernel
theorem dX0_weightOf_86 : decode cX0_weightOf 86 = .ok (.ifCond .eq 7, 3) := by decide +kernel
theorem dX0_weightOf_89 : decode cX0_weightOf 89 = .ok (.iconst 1, 1) := by decide +kernel
theorem dX0_weightOf_90 : decode cX0_weightOf 90 = .ok (.goto 4, 3) := by decide +kernel
theorem dX0_weightOf_93 : decode cX0_weightOf 93 = .ok (.iconst 0, 1) := by decide +kernel
theorem dX0_weightOf_94 : decode cX0_weightOf 94 = .ok (.istore 8, 2) := by decide +kernel
theorem dX0_weightOf_96 : decode cX0_weightOf 96 = .ok (.iload 7, 2) := by decide +kernel
theorem dX0_weightOf_98 : decode cX0_weightOf 98 = .ok (.ifCond .ne 8, 3) := by decide +kernel
theorem dX0_weightOf_101 : decode cX0_weightOf 101 = .ok (.iload 8, 2) := by decide +kernel
theorem dX0_weightOf_103 : decode cX0_weightOf 103 = .ok (.ifCond .eq 14, 3) := by decide +kernel
theorem dX0_weightOf_106 : decode cX0_weightOf 106 = .ok (.iload_n 3, 1) := by decide +kernel
theorem dX0_weightOf_107 : decode cX0_weightOf 107 = .ok (.aload_n 1, 1) := by decide +kernel
theorem dX0_weightOf_108 : decode cX0_weightOf 108 = .ok (.iload 4, 2) := by decide +kernel
theorem dX0_weightOf_110 : decode cX0_weightOf 110 = .ok (.iload 5, 2) := by decide +kernel
theorem dX0_weightOf_112 : decode cX0_weightOf 112 = .ok (.invokevirtual 53, 3) := by decide +kernel
theorem dX0_weightOf_115 : decode cX0_weightOf 115 = .ok (.iadd, 1) := by decide +kernel
theorem dX0_weightOf_116 : decode cX0_weightOf 116 = .ok (.istore_n 3, 1) := by decide +kernel
theorem dX0_weightOf_117 : decode cX0_weightOf 117 = .ok (.iinc 5 1, 3) := by decide +kernel
theorem dX0_weightOf_120 : decode cX0_weightOf 120 = .ok (.goto (-100), 3) := by decide +kernel
theorem dX0_weightOf_123 : decode cX0_weightOf 123 = .ok (.iinc 4 1, 3) := by decide +kernel
theorem dX0_weightOf_126 : decode cX0_weightOf 126 = .ok (.goto (-121), 3) := by decide +kernel
theorem dX0_weightOf_129 : decode cX0_weightOf 129 = .ok (.iload_n 3, 1) := by decide +kernel
theorem dX0_weightOf_130 : decode cX0_weightOf 130 = .ok (.ireturn, 1) := by decide +kernel
theorem dX0_isPlaced_0 : decode cX0_isPlaced 0 = .ok (.aload_n 0, 1) := by decide +kernel
theorem dX0_isPlaced_1 : decode cX0_isPlaced 1 = .ok (.getfield 25, 3) := by decide +kernel
theorem dX0_isPlaced_4 : decode cX0_isPlaced 4 = .ok (.iload_n 1, 1) := by decide +kernel
theorem dX0_isPlaced_5 : decode cX0_isPlaced 5 = .ok (.ishr, 1) := by decide +kernel
theorem dX0_isPlaced_6 : decode cX0_isPlaced 6 = .ok (.iconst 1, 1) := by decide +kernel
theorem dX0_isPlaced_7 : decode cX0_isPlaced 7 = .ok (.iand, 1) := by decide +kernel
theorem dX0_isPlaced_8 : decode cX0_isPlaced 8 = .ok (.ifCond .eq 7, 3) := by decide +kernel
theorem dX0_isPlaced_11 : decode cX0_isPlaced 11 = .ok (.iconst 1, 1) := by decide +kernel
theorem dX0_isPlaced_12 : decode cX0_isPlaced 12 = .ok (.goto 4, 3) := by decide +kernel
theorem dX0_isPlaced_15 : decode cX0_isPlaced 15 = .ok (.iconst 0, 1) := by decide +kernel
theorem dX0_isPlaced_16 : decode cX0_isPlaced 16 = .ok (.ireturn, 1) := by decide +kernel
theorem dX1_init_0 : decode cX1_init 0 = .ok (.aload_n 0, 1) := by decide +kernel
theorem dX1_init_1 : decode cX1_init 1 = .ok (.invokespecial 3, 3) := by decide +kernel
theorem dX1_init_4 : decode cX1_init 4 = .ok (.aload_n 0, 1) := by decide +kernel
theorem dX1_init_5 : decode cX1_init 5 = .ok (.iconst 1, 1) := by decide +kernel
theorem dX1_init_6 : decode cX1_init 6 = .ok (.putfield 9, 3) := by decide +kernel
theorem dX1_init_9 : decode cX1_init 9 = .ok (.aload_n 0, 1) := by decide +kernel
theorem dX1_init_10 : decode cX1_init 10 = .ok (.iconst 0, 1) := by decide +kernel
theorem dX1_init_11 : decode cX1_init 11 = .ok (.putfield 15, 3) := by decide +kernel
theorem dX1_init_14 : decode cX1_init 14 = .ok (.aload_n 0, 1) := by decide +kernel
theorem dX1_init_15 : decode cX1_init 15 = .ok (.bipush 8, 2) := by decide +kernel
theorem dX1_init_17 : decode cX1_init 17 = .ok (.newarray .int, 2) := by decide +kernel
theorem dX1_init_19 : decode cX1_init 19 = .ok (.putfield 18, 3) := by decide +kernel
theorem dX1_init_22 : decode cX1_init 22 = .ok (.return_, 1) := by decide +kernel
theorem dX1_copyFrom_0 : decode cX1_copyFrom 0 = .ok (.aload_n 0, 1) := by decide +kernel
theorem dX1_copyFrom_1 : decode cX1_copyFrom 1 = .ok (.aload_n 1, 1) := by decide +kernel
theorem dX1_copyFrom_2 : decode cX1_copyFrom 2 = .ok (.getfield 9, 3) := by decide +kernel
theorem dX1_copyFrom_5 : decode cX1_copyFrom 5 = .ok (.putfield 9, 3) := by decide +kernel
theorem dX1_copyFrom_8 : decode cX1_copyFrom 8 = .ok (.aload_n 0, 1) := by decide +kernel
theorem dX1_copyFrom_9 : decode cX1_copyFrom 9 = .ok (.aload_n 1, 1) := by decide +kernel
theorem dX1_copyFrom_10 : decode cX1_copyFrom 10 = .ok (.getfield 15, 3) := by decide +kernel
theorem dX1_copyFrom_13 : decode cX1_copyFrom 13 = .ok (.putfield 15, 3) := by decide +kernel
theorem dX1_copyFrom_16 : decode cX1_copyFrom 16 = .ok (.aload_n 1, 1) := by decide +kernel
theorem dX1_copyFrom_17 : decode cX1_copyFrom 17 = .ok (.getfield 18, 3) := by decide +kernel
theorem dX1_copyFrom_20 : decode cX1_copyFrom 20 = .ok (.iconst 0, 1) := by decide +kernel
theorem dX1_copyFrom_21 : decode cX1_copyFrom 21 = .ok (.aload_n 0, 1) := by decide +kernel
theorem dX1_copyFrom_22 : decode cX1_copyFrom 22 = .ok (.getfield 18, 3) := by decide +kernel
theorem dX1_copyFrom_25 : decode cX1_copyFrom 25 = .ok (.iconst 0, 1) := by decide +kernel
theorem dX1_copyFrom_26 : decode cX1_copyFrom 26 = .ok (.bipush 8, 2) := by decide +kernel
theorem dX1_copyFrom_28 : decode cX1_copyFrom 28 = .ok (.invokestatic 22, 3) := by decide +kernel
theorem dX1_copyFrom_31 : decode cX1_copyFrom 31 = .ok (.return_, 1) := by decide +kernel
theorem dX1_hasBlock_0 : decode cX1_hasBlock 0 = .ok (.iload_n 1, 1) := by decide +kernel
theorem dX1_hasBlock_1 : decode cX1_hasBlock 1 = .ok (.ifCond .lt 15, 3) := by decide +kernel
theorem dX1_hasBlock_4 : decode cX1_hasBlock 4 = .ok (.iload_n 1, 1) := by decide +kernel
theorem dX1_hasBlock_5 : decode cX1_hasBlock 5 = .ok (.aload_n 0, 1) := by decide +kernel
theorem dX1_hasBlock_6 : decode cX1_hasBlock 6 = .ok (.getfield 9, 3) := by decide +kernel
theorem dX1_hasBlock_9 : decode cX1_hasBlock 9 = .ok (.if_icmp .ge 7, 3) := by decide +kernel
theorem dX1_hasBlock_12 : decode cX1_hasBlock 12 = .ok (.iconst 1, 1) := by decide +kernel
theorem dX1_hasBlock_13 : decode cX1_hasBlock 13 = .ok (.goto 4, 3) := by decide +kernel
theorem dX1_hasBlock_16 : decode cX1_hasBlock 16 = .ok (.iconst 0, 1) := by decide +kernel
theorem dX1_hasBlock_17 : decode cX1_hasBlock 17 = .ok (.ireturn, 1) := by decide +kernel
theorem dX1_hasPosition_0 : decode cX1_hasPosition 0 = .ok (.iload_n 1, 1) := by decide +kernel
theorem dX1_hasPosition_1 : decode cX1_hasPosition 1 = .ok (.ifCond .lt 15, 3) := by decide +kernel
theorem dX1_hasPosition_4 : decode cX1_hasPosition 4 = .ok (.iload_n 1, 1) := by decide +kernel
theorem dX1_hasPosition_5 : decode cX1_hasPosition 5 = .ok (.aload_n 0, 1) := by decide +kernel
theorem dX1_hasPosition_6 : decode cX1_hasPosition 6 = .ok (.getfield 9, 3) := by decide +kernel
theorem dX1_hasPosition_9 : decode cX1_hasPosition 9 = .ok (.if_icmp .ge 7, 3) := by decide +kernel
theorem dX1_hasPosition_12 : decode cX1_hasPosition 12 = .ok (.iconst 1, 1) := by decide +kernel
theorem dX1_hasPosition_13 : decode cX1_hasPosition 13 = .ok (.goto 4, 3) := by decide +kernel
theorem dX1_hasPosition_16 : decode cX1_hasPosition 16 = .ok (.iconst 0, 1) := by decide +kernel
theorem dX1_hasPosition_17 : decode cX1_hasPosition 17 = .ok (.ireturn, 1) := by decide +kernel
theorem dX2_init_0 : decode cX2_init 0 = .ok (.aload_n 0, 1) := by decide +kernel
theorem dX2_init_1 : decode cX2_init 1 = .ok (.invokespecial 3, 3) := by decide +kernel
theorem dX2_init_4 : decode cX2_init 4 = .ok (.aload_n 0, 1) := by decide +kernel
theorem dX2_init_5 : decode cX2_init 5 = .ok (.bipush 14, 2) := by decide +kernel
theorem dX2_init_7 : decode cX2_init 7 = .ok (.anewarray 9, 3) := by decide +kernel
theorem dX2_init_10 : decode cX2_init 10 = .ok (.putfield 11, 3) := by decide +kernel
theorem dX2_init_13 : decode cX2_init 13 = .ok (.aload_n 0, 1) := by decide +kernel
theorem dX2_init_14 : decode cX2_init 14 = .ok (.iconst 0, 1) := by decide +kernel
theorem dX2_init_15 : decode cX2_init 15 = .ok (.putfield 17, 3) := by decide +kernel
theorem dX2_init_18 : decode cX2_init 18 = .ok (.aload_n 0, 1) := by decide +kernel
theorem dX2_init_19 : decode cX2_init 19 = .ok (.iconst 0, 1) := by decide +kernel
theorem dX2_init_20 : decode cX2_init 20 = .ok (.putfield 21, 3) := by decide +kernel
theorem dX2_init_23 : decode cX2_init 23 = .ok (.iconst 0, 1) := by decide +kernel
theorem dX2_init_24 : decode cX2_init 24 = .ok (.istore_n 2, 1) := by decide +kernel
theorem dX2_init_25 : decode cX2_init 25 = .ok (.iload_n 2, 1) := by decide +kernel
theorem dX2_init_26 : decode cX2_init 26 = .ok (.bipush 14, 2) := by decide +kernel
theorem dX2_init_28 : decode cX2_init 28 = .ok (.if_icmp .ge 23, 3) := by decide +kernel
theorem dX2_init_31 : decode cX2_init 31 = .ok (.aload_n 0, 1) := by decide +kernel
theorem dX2_init_32 : decode cX2_init 32 = .ok (.getfield 11, 3) := by decide +kernel
theorem dX2_init_35 : decode cX2_init 35 = .ok (.iload_n 2, 1) := by decide +kernel
theorem dX2_init_36 : decode cX2_init 36 = .ok (.new 9, 3) := by decide +kernel
theorem dX2_init_39 : decode cX2_init 39 = .ok (.dup, 1) := by decide +kernel
theorem dX2_init_40 : decode cX2_init 40 = .ok (.aload_n 1, 1) := by decide +kernel
theorem dX2_init_41 : decode cX2_init 41 = .ok (.invokespecial 24, 3) := by decide +kernel
theorem dX2_init_44 : decode cX2_init 44 = .ok (.aastore, 1) := by decide +kernel
theorem dX2_init_45 : decode cX2_init 45 = .ok (.iinc 2 1, 3) := by decide +kernel
theorem dX2_init_48 : decode cX2_init 48 = .ok (.goto (-23), 3) := by decide +kernel
theorem dX2_init_51 : decode cX2_init 51 = .ok (.return_, 1) := by decide +kernel
theorem dX2_forget_0 : decode cX2_forget 0 = .ok (.aload_n 0, 1) := by decide +kernel
theorem dX2_forget_1 : decode cX2_forget 1 = .ok (.iconst 0, 1) := by decide +kernel
theorem dX2_forget_2 : decode cX2_forget 2 = .ok (.putfield 21, 3) := by decide +kernel
theorem dX2_forget_5 : decode cX2_forget 5 = .ok (.return_, 1) := by decide +kernel
theorem dX2_remember_0 : decode cX2_remember 0 = .ok (.aload_n 0, 1) := by decide +kernel
theorem dX2_remember_1 : decode cX2_remember 1 = .ok (.getfield 21, 3) := by decide +kernel
theorem dX2_remember_4 : decode cX2_remember 4 = .ok (.bipush 14, 2) := by decide +kernel
theorem dX2_remember_6 : decode cX2_remember 6 = .ok (.if_icmp .ne 26, 3) := by decide +kernel
theorem dX2_remember_9 : decode cX2_remember 9 = .ok (.aload_n 0, 1) := by decide +kernel
theorem dX2_remember_10 : decode cX2_remember 10 = .ok (.aload_n 0, 1) := by decide +kernel
theorem dX2_remember_11 : decode cX2_remember 11 = .ok (.getfield 17, 3) := by decide +kernel
theorem dX2_remember_14 : decode cX2_remember 14 = .ok (.iconst 1, 1) := by decide +kernel
theorem dX2_remember_15 : decode cX2_remember 15 = .ok (.iadd, 1) := by decide +kernel
theorem dX2_remember_16 : decode cX2_remember 16 = .ok (.bipush 14, 2) := by decide +kernel
theorem dX2_remember_18 : decode cX2_remember 18 = .ok (.irem, 1) := by decide +kernel
theorem dX2_remember_19 : decode cX2_remember 19 = .ok (.putfield 17, 3) := by decide +kernel
theorem dX2_remember_22 : decode cX2_remember 22 = .ok (.aload_n 0, 1) := by decide +kernel
theorem dX2_remember_23 : decode cX2_remember 23 = .ok (.dup, 1) := by decide +kernel
theorem dX2_remember_24 : decode cX2_remember 24 = .ok (.getfield 21, 3) := by decide +kernel
theorem dX2_remember_27 : decode cX2_remember 27 = .ok (.iconst 1, 1) := by decide +kernel
theorem dX2_remember_28 : decode cX2_remember 28 = .ok (.isub, 1) := by decide +kernel
theorem dX2_remember_29 : decode cX2_remember 29 = .ok (.putfield 21, 3) := by decide +kernel
theorem dX2_remember_32 : decode cX2_remember 32 = .ok (.aload_n 0, 1) := by decide +kernel
theorem dX2_remember_33 : decode cX2_remember 33 = .ok (.getfield 11, 3) := by decide +kernel
theorem dX2_remember_36 : decode cX2_remember 36 = .ok (.aload_n 0, 1) := by decide +kernel
theorem dX2_remember_37 : decode cX2_remember 37 = .ok (.getfield 17, 3) := by decide +kernel
theorem dX2_remember_40 : decode cX2_remember 40 = .ok (.aload_n 0, 1) := by decide +kernel
theorem dX2_remember_41 : decode cX2_remember 41 = .ok (.getfield 21, 3) := by decide +kernel
theorem dX2_remember_44 : decode cX2_remember 44 = .ok (.iadd, 1) := by decide +kernel
theorem dX2_remember_45 : decode cX2_remember 45 = .ok (.bipush 14, 2) := by decide +kernel
theorem dX2_remember_47 : decode cX2_remember 47 = .ok (.irem, 1) := by decide +kernel
theorem dX2_remember_48 : decode cX2_remember 48 = .ok (.aaload, 1) := by decide +kernel
theorem dX2_remember_49 : decode cX2_remember 49 = .ok (.aload_n 1, 1) := by decide +kernel
theorem dX2_remember_50 : decode cX2_remember 50 = .ok (.invokevirtual 27, 3) := by decide +kernel
theorem dX2_remember_53 : decode cX2_remember 53 = .ok (.aload_n 0, 1) := by decide +kernel
theorem dX2_remember_54 : decode cX2_remember 54 = .ok (.dup, 1) := by decide +kernel
theorem dX2_remember_55 : decode cX2_remember 55 = .ok (.getfield 21, 3) := by decide +kernel
theorem dX2_remember_58 : decode cX2_remember 58 = .ok (.iconst 1, 1) := by decide +kernel
theorem dX2_remember_59 : decode cX2_remember 59 = .ok (.iadd, 1) := by decide +kernel
theorem dX2_remember_60 : decode cX2_remember 60 = .ok (.putfield 21, 3) := by decide +kernel
theorem dX2_remember_63 : decode cX2_remember 63 = .ok (.return_, 1) := by decide +kernel
theorem dX2_takeBack_0 : decode cX2_takeBack 0 = .ok (.aload_n 0, 1) := by decide +kernel
theorem dX2_takeBack_1 : decode cX2_takeBack 1 = .ok (.getfield 21, 3) := by decide +kernel
theorem dX2_takeBack_4 : decode cX2_takeBack 4 = .ok (.ifCond .ne 6, 3) := by decide +kernel
theorem dX2_takeBack_7 : decode cX2_takeBack 7 = .ok (.bipush (-3), 2) := by decide +kernel
theorem dX2_takeBack_9 : decode cX2_takeBack 9 = .ok (.ireturn, 1) := by decide +kernel
theorem dX2_takeBack_10 : decode cX2_takeBack 10 = .ok (.aload_n 0, 1) := by decide +kernel
theorem dX2_takeBack_11 : decode cX2_takeBack 11 = .ok (.dup, 1) := by decide +kernel
theorem dX2_takeBack_12 : decode cX2_takeBack 12 = .ok (.getfield 21, 3) := by decide +kernel
theorem dX2_takeBack_15 : decode cX2_takeBack 15 = .ok (.iconst 1, 1) := by decide +kernel
theorem dX2_takeBack_16 : decode cX2_takeBack 16 = .ok (.isub, 1) := by decide +kernel
theorem dX2_takeBack_17 : decode cX2_takeBack 17 = .ok (.putfield 21, 3) := by decide +kernel
theorem dX2_takeBack_20 : decode cX2_takeBack 20 = .ok (.aload_n 1, 1) := by decide +kernel
theorem dX2_takeBack_21 : decode cX2_takeBack 21 = .ok (.aload_n 0, 1) := by decide +kernel
theorem dX2_takeBack_22 : decode cX2_takeBack 22 = .ok (.getfield 11, 3) := by decide +kernel
theorem dX2_takeBack_25 : decode cX2_takeBack 25 = .ok (.aload_n 0, 1) := by decide +kernel
theorem dX2_takeBack_26 : decode cX2_takeBack 26 = .ok (.getfield 17, 3) := by decide +kernel
theorem dX2_takeBack_29 : decode cX2_takeBack 29 = .ok (.aload_n 0, 1) := by decide +kernel
theorem dX2_takeBack_30 : decode cX2_takeBack 30 = .ok (.getfield 21, 3) := by decide +kernel
theorem dX2_takeBack_33 : decode cX2_takeBack 33 = .ok (.iadd, 1) := by decide +kernel
theorem dX2_takeBack_34 : decode cX2_takeBack 34 = .ok (.bipush 14, 2) := by decide +kernel
theorem dX2_takeBack_36 : decode cX2_takeBack 36 = .ok (.irem, 1) := by decide +kernel
theorem dX2_takeBack_37 : decode cX2_takeBack 37 = .ok (.aaload, 1) := by decide +kernel
theorem dX2_takeBack_38 : decode cX2_takeBack 38 = .ok (.invokevirtual 27, 3) := by decide +kernel
theorem dX2_takeBack_41 : decode cX2_takeBack 41 = .ok (.aload_n 0, 1) := by decide +kernel
theorem dX2_takeBack_42 : decode cX2_takeBack 42 = .ok (.getfield 21, 3) := by decide +kernel
theorem dX2_takeBack_45 : decode cX2_takeBack 45 = .ok (.ireturn, 1) := by decide +kernel
theorem dX3_init_0 : decode cX3_init 0 = .ok (.aload_n 0, 1) := by decide +kernel
theorem dX3_init_1 : decode cX3_init 1 = .ok (.invokespecial 3, 3) := by decide +kernel
theorem dX3_init_4 : decode cX3_init 4 = .ok (.aload_n 0, 1) := by decide +kernel
theorem dX3_init_5 : decode cX3_init 5 = .ok (.sipush 2048, 3) := by decide +kernel
theorem dX3_init_8 : decode cX3_init 8 = .ok (.newarray .int, 2) := by decide +kernel
theorem dX3_init_10 : decode cX3_init 10 = .ok (.putfield 11, 3) := by decide +kernel
theorem dX3_init_13 : decode cX3_init 13 = .ok (.aload_n 0, 1) := by decide +kernel
theorem dX3_init_14 : decode cX3_init 14 = .ok (.bipush 72, 2) := by decide +kernel
theorem dX3_init_16 : decode cX3_init 16 = .ok (.newarray .int, 2) := by decide +kernel
theorem dX3_init_18 : decode cX3_init 18 = .ok (.putfield 15, 3) := by decide +kernel
theorem dX3_init_21 : decode cX3_init 21 = .ok (.aload_n 0, 1) := by decide +kernel
theorem dX3_init_22 : decode cX3_init 22 = .ok (.iconst 0, 1) := by decide +kernel
theorem dX3_init_23 : decode cX3_init 23 = .ok (.putfield 18, 3) := by decide +kernel
theorem dX3_init_26 : decode cX3_init 26 = .ok (.return_, 1) := by decide +kernel
theorem dX3_leastCost_0 : decode cX3_leastCost 0 = .ok (.aload_n 0, 1) := by decide +kernel
theorem dX3_leastCost_1 : decode cX3_leastCost 1 = .ok (.aload_n 1, 1) := by decide +kernel
theorem dX3_leastCost_2 : decode cX3_leastCost 2 = .ok (.invokevirtual 22, 3) := by decide +kernel
theorem dX3_leastCost_5 : decode cX3_leastCost 5 = .ok (.aload_n 0, 1) := by decide +kernel
theorem dX3_leastCost_6 : decode cX3_leastCost 6 = .ok (.aload_n 1, 1) := by decide +kernel
theorem dX3_leastCost_7 : decode cX3_leastCost 7 = .ok (.invokevirtual 26, 3) := by decide +kernel
theorem dX3_leastCost_10 : decode cX3_leastCost 10 = .ok (.iconst 0, 1) := by decide +kernel
theorem dX3_leastCost_11 : decode cX3_leastCost 11 = .ok (.istore_n 2, 1) := by decide +kernel
theorem dX3_leastCost_12 : decode cX3_leastCost 12 = .ok (.iload_n 2, 1) := by decide +kernel
theorem dX3_leastCost_13 : decode cX3_leastCost 13 = .ok (.aload_n 0, 1) := by decide +kernel
theorem dX3_leastCost_14 : decode cX3_leastCost 14 = .ok (.getfield 18, 3) := by decide +kernel
theorem dX3_leastCost_17 : decode cX3_leastCost 17 = .ok (.if_icmp .gt 26, 3) := by decide +kernel
theorem dX3_leastCost_20 : decode cX3_leastCost 20 = .ok (.iload_n 2, 1) := by decide +kernel
theorem dX3_leastCost_21 : decode cX3_leastCost 21 = .ok (.aload_n 0, 1) := by decide +kernel
theorem dX3_leastCost_22 : decode cX3_leastCost 22 = .ok (.getfield 18, 3) := by decide +kernel
theorem dX3_leastCost_25 : decode cX3_leastCost 25 = .ok (.iconst (-1), 1) := by decide +kernel
theorem dX3_leastCost_26 : decode cX3_leastCost 26 = .ok (.ixor, 1) := by decide +kernel
theorem dX3_leastCost_27 : decode cX3_leastCost 27 = .ok (.iand, 1) := by decide +kernel
theorem dX3_leastCost_28 : decode cX3_leastCost 28 = .ok (.ifCond .ne 9, 3) := by decide +kernel
theorem dX3_leastCost_31 : decode cX3_leastCost 31 = .ok (.aload_n 0, 1) := by decide +kernel
theorem dX3_leastCost_32 : decode cX3_leastCost 32 = .ok (.aload_n 1, 1) := by decide +kernel
theorem dX3_leastCost_33 : decode cX3_leastCost 33 = .ok (.iload_n 2, 1) := by decide +kernel
theorem dX3_leastCost_34 : decode cX3_leastCost 34 = .ok (.invokevirtual 29, 3) := by decide +kernel
theorem dX3_leastCost_37 : decode cX3_leastCost 37 = .ok (.iinc 2 1, 3) := by decide +kernel
theorem dX3_leastCost_40 : decode cX3_leastCost 40 = .ok (.goto (-28), 3) := by decide +kernel
theorem dX3_leastCost_43 : decode cX3_leastCost 43 = .ok (.aload_n 0, 1) := by decide +kernel
theorem dX3_leastCost_44 : decode cX3_leastCost 44 = .ok (.getfield 11, 3) := by decide +kernel
theorem dX3_leastCost_47 : decode cX3_leastCost 47 = .ok (.aload_n 0, 1) := by decide +kernel
theorem dX3_leastCost_48 : decode cX3_leastCost 48 = .ok (.getfield 18, 3) := by decide +kernel
theorem dX3_leastCost_51 : decode cX3_leastCost 51 = .ok (.bipush 8, 2) := by decide +kernel
theorem dX3_leastCost_53 : decode cX3_leastCost 53 = .ok (.imul, 1) := by decide +kernel
theorem dX3_leastCost_54 : decode cX3_leastCost 54 = .ok (.iaload, 1) := by decide +kernel
theorem dX3_leastCost_55 : decode cX3_leastCost 55 = .ok (.aload_n 1, 1) := by decide +kernel
theorem dX3_leastCost_56 : decode cX3_leastCost 56 = .ok (.invokestatic 33, 3) := by decide +kernel
theorem dX3_leastCost_59 : decode cX3_leastCost 59 = .ok (.iadd, 1) := by decide +kernel
theorem dX3_leastCost_60 : decode cX3_leastCost 60 = .ok (.ireturn, 1) := by decide +kernel
theorem dX3_coldCost_0 : decode cX3_coldCost 0 = .ok (.iconst 0, 1) := by decide +kernel
theorem dX3_coldCost_1 : decode cX3_coldCost 1 = .ok (.istore_n 1, 1) := by decide +kernel
theorem dX3_coldCost_2 : decode cX3_coldCost 2 = .ok (.aload_n 0, 1) := by decide +kernel
theorem dX3_coldCost_3 : decode cX3_coldCost 3 = .ok (.getfield 37, 3) := by decide +kernel
theorem dX3_coldCost_6 : decode cX3_coldCost 6 = .ok (.istore_n 2, 1) := by decide +kernel
theorem dX3_coldCost_7 : decode cX3_coldCost 7 = .ok (.iload_n 2, 1) := by decide +kernel
theorem dX3_coldCost_8 : decode cX3_coldCost 8 = .ok (.aload_n 0, 1) := by decide +kernel
theorem dX3_coldCost_9 : decode cX3_coldCost 9 = .ok (.getfield 42, 3) := by decide +kernel
theorem dX3_coldCost_12 : decode cX3_coldCost 12 = .ok (.getfield 46, 3) := by decide +kernel
theorem dX3_coldCost_15 : decode cX3_coldCost 15 = .ok (.if_icmp .ge 27, 3) := by decide +kernel
theorem dX3_coldCost_18 : decode cX3_coldCost 18 = .ok (.iload_n 1, 1) := by decide +kernel
theorem dX3_coldCost_19 : decode cX3_coldCost 19 = .ok (.aload_n 0, 1) := by decide +kernel
theorem dX3_coldCost_20 : decode cX3_coldCost 20 = .ok (.aload_n 0, 1) := by decide +kernel
theorem dX3_coldCost_21 : decode cX3_coldCost 21 = .ok (.getfield 51, 3) := by decide +kernel
theorem dX3_coldCost_24 : decode cX3_coldCost 24 = .ok (.iload_n 2, 1) := by decide +kernel
theorem dX3_coldCost_25 : decode cX3_coldCost 25 = .ok (.iaload, 1) := by decide +kernel
theorem dX3_coldCost_26 : decode cX3_coldCost 26 = .ok (.aload_n 0, 1) := by decide +kernel
theorem dX3_coldCost_27 : decode cX3_coldCost 27 = .ok (.iload_n 2, 1) := by decide +kernel
theorem dX3_coldCost_28 : decode cX3_coldCost 28 = .ok (.invokevirtual 54, 3) := by decide +kernel
theorem dX3_coldCost_31 : decode cX3_coldCost 31 = .ok (.invokevirtual 58, 3) := by decide +kernel
theorem dX3_coldCost_34 : decode cX3_coldCost 34 = .ok (.iadd, 1) := by decide +kernel
theorem dX3_coldCost_35 : decode cX3_coldCost 35 = .ok (.istore_n 1, 1) := by decide +kernel
theorem dX3_coldCost_36 : decode cX3_coldCost 36 = .ok (.iinc 2 1, 3) := by decide +kernel
theorem dX3_coldCost_39 : decode cX3_coldCost 39 = .ok (.goto (-32), 3) := by decide +kernel
theorem dX3_coldCost_42 : decode cX3_coldCost 42 = .ok (.iload_n 1, 1) := by decide +kernel
theorem dX3_coldCost_43 : decode cX3_coldCost 43 = .ok (.ireturn, 1) := by decide +kernel
theorem dX3_arrange_0 : decode cX3_arrange 0 = .ok (.aload_n 0, 1) := by decide +kernel
theorem dX3_arrange_1 : decode cX3_arrange 1 = .ok (.aload_n 1, 1) := by decide +kernel
theorem dX3_arrange_2 : decode cX3_arrange 2 = .ok (.invokevirtual 62, 3) := by decide +kernel
theorem dX3_arrange_5 : decode cX3_arrange 5 = .ok (.pop, 1) := by decide +kernel
theorem dX3_arrange_6 : decode cX3_arrange 6 = .ok (.aload_n 0, 1) := by decide +kernel
theorem dX3_arrange_7 : decode cX3_arrange 7 = .ok (.getfield 18, 3) := by decide +kernel
theorem dX3_arrange_10 : decode cX3_arrange 10 = .ok (.istore_n 2, 1) := by decide +kernel
theorem dX3_arrange_11 : decode cX3_arrange 11 = .ok (.iconst 0, 1) := by decide +kernel
theorem dX3_arrange_12 : decode cX3_arrange 12 = .ok (.istore_n 3, 1) := by decide +kernel
theorem dX3_arrange_13 : decode cX3_arrange 13 = .ok (.iconst 1, 1) := by decide +kernel
theorem dX3_arrange_14 : decode cX3_arrange 14 = .ok (.istore 4, 2) := by decide +kernel
theorem dX3_arrange_16 : decode cX3_arrange 16 = .ok (.iload 4, 2) := by decide +kernel
theorem dX3_arrange_18 : decode cX3_arrange 18 = .ok (.aload_n 1, 1) := by decide +kernel
theorem dX3_arrange_19 : decode cX3_arrange 19 = .ok (.getfield 37, 3) := by decide +kernel
theorem dX3_arrange_22 : decode cX3_arrange 22 = .ok (.if_icmp .ge 39, 3) := by decide +kernel
theorem dX3_arrange_25 : decode cX3_arrange 25 = .ok (.aload_n 0, 1) := by decide +kernel
theorem dX3_arrange_26 : decode cX3_arrange 26 = .ok (.aload_n 1, 1) := by decide +kernel
theorem dX3_arrange_27 : decode cX3_arrange 27 = .ok (.iload_n 2, 1) := by decide +kernel
theorem dX3_arrange_28 : decode cX3_arrange 28 = .ok (.iload_n 3, 1) := by decide +kernel
theorem dX3_arrange_29 : decode cX3_arrange 29 = .ok (.invokevirtual 65, 3) := by decide +kernel
theorem dX3_arrange_32 : decode cX3_arrange 32 = .ok (.istore 5, 2) := by decide +kernel
theorem dX3_arrange_34 : decode cX3_arrange 34 = .ok (.aload_n 1, 1) := by decide +kernel
theorem dX3_arrange_35 : decode cX3_arrange 35 = .ok (.getfield 51, 3) := by decide +kernel
theorem dX3_arrange_38 : decode cX3_arrange 38 = .ok (.iload 4, 2) := by decide +kernel
theorem dX3_arrange_40 : decode cX3_arrange 40 = .ok (.iload 5, 2) := by decide +kernel
theorem dX3_arrange_42 : decode cX3_arrange 42 = .ok (.iastore, 1) := by decide +kernel
theorem dX3_arrange_43 : decode cX3_arrange 43 = .ok (.iload_n 2, 1) := by decide +kernel
theorem dX3_arrange_44 : decode cX3_arrange 44 = .ok (.iconst 1, 1) := by decide +kernel
theorem dX3_arrange_45 : decode cX3_arrange 45 = .ok (.iload 5, 2) := by decide +kernel
theorem dX3_arrange_47 : decode cX3_arrange 47 = .ok (.ishl, 1) := by decide +kernel
theorem dX3_arrange_48 : decode cX3_arrange 48 = .ok (.iconst (-1), 1) := by decide +kernel
theorem dX3_arrange_49 : decode cX3_arrange 49 = .ok (.ixor, 1) := by decide +kernel
theorem dX3_arrange_50 : decode cX3_arrange 50 = .ok (.iand, 1) := by decide +kernel
theorem dX3_arrange_51 : decode cX3_arrange 51 = .ok (.istore_n 2, 1) := by decide +kernel
theorem dX3_arrange_52 : decode cX3_arrange 52 = .ok (.iload 5, 2) := by decide +kernel
theorem dX3_arrange_54 : decode cX3_arrange 54 = .ok (.istore_n 3, 1) := by decide +kernel
theorem dX3_arrange_55 : decode cX3_arrange 55 = .ok (.iinc 4 1, 3) := by decide +kernel
theorem dX3_arrange_58 : decode cX3_arrange 58 = .ok (.goto (-42), 3) := by decide +kernel
theorem dX3_arrange_61 : decode cX3_arrange 61 = .ok (.return_, 1) := by decide +kernel
theorem dX3_fillShares_0 : decode cX3_fillShares 0 = .ok (.iconst 0, 1) := by decide +kernel
theorem dX3_fillShares_1 : decode cX3_fillShares 1 = .ok (.istore_n 2, 1) := by decide +kernel
theorem dX3_fillShares_2 : decode cX3_fillShares 2 = .ok (.iload_n 2, 1) := by decide +kernel
theorem dX3_fillShares_3 : decode cX3_fillShares 3 = .ok (.aload_n 1, 1) := by decide +kernel
theorem dX3_fillShares_4 : decode cX3_fillShares 4 = .ok (.getfield 42, 3) := by decide +kernel
theorem dX3_fillShares_7 : decode cX3_fillShares 7 = .ok (.getfield 46, 3) := by decide +kernel
theorem dX3_fillShares_10 : decode cX3_fillShares 10 = .ok (.if_icmp .ge 66, 3) := by decide +kernel
theorem dX3_fillShares_13 : decode cX3_fillShares 13 = .ok (.iload_n 2, 1) := by decide +kernel
theorem dX3_fillShares_14 : decode cX3_fillShares 14 = .ok (.bipush 9, 2) := by decide +kernel
theorem dX3_fillShares_16 : decode cX3_fillShares 16 = .ok (.imul, 1) := by decide +kernel
theorem dX3_fillShares_17 : decode cX3_fillShares 17 = .ok (.istore_n 3, 1) := by decide +kernel
theorem dX3_fillShares_18 : decode cX3_fillShares 18 = .ok (.iconst 0, 1) := by decide +kernel
theorem dX3_fillShares_19 : decode cX3_fillShares 19 = .ok (.istore 4, 2) := by decide +kernel
theorem dX3_fillShares_21 : decode cX3_fillShares 21 = .ok (.iload 4, 2) := by decide +kernel
theorem dX3_fillShares_23 : decode cX3_fillShares 23 = .ok (.aload_n 1, 1) := by decide +kernel
theorem dX3_fillShares_24 : decode cX3_fillShares 24 = .ok (.getfield 42, 3) := by decide +kernel
theorem dX3_fillShares_27 : decode cX3_fillShares 27 = .ok (.getfield 46, 3) := by decide +kernel
theorem dX3_fillShares_30 : decode cX3_fillShares 30 = .ok (.if_icmp .ge 25, 3) := by decide +kernel
theorem dX3_fillShares_33 : decode cX3_fillShares 33 = .ok (.aload_n 0, 1) := by decide +kernel
theorem dX3_fillShares_34 : decode cX3_fillShares 34 = .ok (.getfield 15, 3) := by decide +kernel
theorem dX3_fillShares_37 : decode cX3_fillShares 37 = .ok (.iload_n 3, 1) := by decide +kernel
theorem dX3_fillShares_38 : decode cX3_fillShares 38 = .ok (.iload 4, 2) := by decide +kernel
theorem dX3_fillShares_40 : decode cX3_fillShares 40 = .ok (.iadd, 1) := by decide +kernel
theorem dX3_fillShares_41 : decode cX3_fillShares 41 = .ok (.aload_n 1, 1) := by decide +kernel
theorem dX3_fillShares_42 : decode cX3_fillShares 42 = .ok (.iload_n 2, 1) := by decide +kernel
theorem dX3_fillShares_43 : decode cX3_fillShares 43 = .ok (.iload 4, 2) := by decide +kernel
theorem dX3_fillShares_45 : decode cX3_fillShares 45 = .ok (.invokevirtual 58, 3) := by decide +kernel
theorem dX3_fillShares_48 : decode cX3_fillShares 48 = .ok (.iastore, 1) := by decide +kernel
theorem dX3_fillShares_49 : decode cX3_fillShares 49 = .ok (.iinc 4 1, 3) := by decide +kernel
theorem dX3_fillShares_52 : decode cX3_fillShares 52 = .ok (.goto (-31), 3) := by decide +kernel
theorem dX3_fillShares_55 : decode cX3_fillShares 55 = .ok (.aload_n 0, 1) := by decide +kernel
theorem dX3_fillShares_56 : decode cX3_fillShares 56 = .ok (.getfield 15, 3) := by decide +kernel
theorem dX3_fillShares_59 : decode cX3_fillShares 59 = .ok (.iload_n 3, 1) := by decide +kernel
theorem dX3_fillShares_60 : decode cX3_fillShares 60 = .ok (.bipush 8, 2) := by decide +kernel
theorem dX3_fillShares_62 : decode cX3_fillShares 62 = .ok (.iadd, 1) := by decide +kernel
theorem dX3_fillShares_63 : decode cX3_fillShares 63 = .ok (.aload_n 1, 1) := by decide +kernel
theorem dX3_fillShares_64 : decode cX3_fillShares 64 = .ok (.iload_n 2, 1) := by decide +kernel
theorem dX3_fillShares_65 : decode cX3_fillShares 65 = .ok (.iconst (-1), 1) := by decide +kernel
theorem dX3_fillShares_66 : decode cX3_fillShares 66 = .ok (.invokevirtual 58, 3) := by decide +kernel
theorem dX3_fillShares_69 : decode cX3_fillShares 69 = .ok (.iastore, 1) := by decide +kernel
theorem dX3_fillShares_70 : decode cX3_fillShares 70 = .ok (.iinc 2 1, 3) := by decide +kernel
theorem dX3_fillShares_73 : decode cX3_fillShares 73 = .ok (.goto (-71), 3) := by decide +kernel
theorem dX3_fillShares_76 : decode cX3_fillShares 76 = .ok (.return_, 1) := by decide +kernel
theorem dX3_collectFreeBlocks_0 : decode cX3_collectFreeBlocks 0 = .ok (.aload_n 0, 1) := by decide +kernel
theorem dX3_collectFreeBlocks_1 : decode cX3_collectFreeBlocks 1 = .ok (.iconst 0, 1) := by decide +kernel
theorem dX3_collectFreeBlocks_2 : decode cX3_collectFreeBlocks 2 = .ok (.putfield 18, 3) := by decide +kernel
theorem dX3_collectFreeBlocks_5 : decode cX3_collectFreeBlocks 5 = .ok (.iconst 1, 1) := by decide +kernel
theorem dX3_collectFreeBlocks_6 : decode cX3_collectFreeBlocks 6 = .ok (.istore_n 2, 1) := by decide +kernel
theorem dX3_collectFreeBlocks_7 : decode cX3_collectFreeBlocks 7 = .ok (.iload_n 2, 1) := by decide +kernel
theorem dX3_collectFreeBlocks_8 : decode cX3_collectFreeBlocks 8 = .ok (.aload_n 1, 1) := by decide +kernel
theorem dX3_collectFreeBlocks_9 : decode cX3_collectFreeBlocks 9 = .ok (.getfield 37, 3) := by decide +kernel
theorem dX3_collectFreeBlocks_12 : decode cX3_collectFreeBlocks 12 = .ok (.if_icmp .ge 26, 3) := by decide +kernel
theorem dX3_collectFreeBlocks_15 : decode cX3_collectFreeBlocks 15 = .ok (.aload_n 0, 1) := by decide +kernel
theorem dX3_collectFreeBlocks_16 : decode cX3_collectFreeBlocks 16 = .ok (.dup, 1) := by decide +kernel
theorem dX3_collectFreeBlocks_17 : decode cX3_collectFreeBlocks 17 = .ok (.getfield 18, 3) := by decide +kernel
theorem dX3_collectFreeBlocks_20 : decode cX3_collectFreeBlocks 20 = .ok (.iconst 1, 1) := by decide +kernel
theorem dX3_collectFreeBlocks_21 : decode cX3_collectFreeBlocks 21 = .ok (.aload_n 1, 1) := by decide +kernel
theorem dX3_collectFreeBlocks_22 : decode cX3_collectFreeBlocks 22 = .ok (.getfield 51, 3) := by decide +kernel
theorem dX3_collectFreeBlocks_25 : decode cX3_collectFreeBlocks 25 = .ok (.iload_n 2, 1) := by decide +kernel
theorem dX3_collectFreeBlocks_26 : decode cX3_collectFreeBlocks 26 = .ok (.iaload, 1) := by decide +kernel
theorem dX3_collectFreeBlocks_27 : decode cX3_collectFreeBlocks 27 = .ok (.ishl, 1) := by decide +kernel
theorem dX3_collectFreeBlocks_28 : decode cX3_collectFreeBlocks 28 = .ok (.ior, 1) := by decide +kernel
theorem dX3_collectFreeBlocks_29 : decode cX3_collectFreeBlocks 29 = .ok (.putfield 18, 3) := by decide +kernel
theorem dX3_collectFreeBlocks_32 : decode cX3_collectFreeBlocks 32 = .ok (.iinc 2 1, 3) := by decide +kernel
theorem dX3_collectFreeBlocks_35 : decode cX3_collectFreeBlocks 35 = .ok (.goto (-28), 3) := by decide +kernel
theorem dX3_collectFreeBlocks_38 : decode cX3_collectFreeBlocks 38 = .ok (.return_, 1) := by decide +kernel
theorem dX3_fillSet_0 : decode cX3_fillSet 0 = .ok (.iconst 0, 1) := by decide +kernel
theorem dX3_fillSet_1 : decode cX3_fillSet 1 = .ok (.istore_n 3, 1) := by decide +kernel
theorem dX3_fillSet_2 : decode cX3_fillSet 2 = .ok (.iload_n 3, 1) := by decide +kernel
theorem dX3_fillSet_3 : decode cX3_fillSet 3 = .ok (.aload_n 1, 1) := by decide +kernel
theorem dX3_fillSet_4 : decode cX3_fillSet 4 = .ok (.getfield 42, 3) := by decide +kernel
theorem dX3_fillSet_7 : decode cX3_fillSet 7 = .ok (.getfield 46, 3) := by decide +kernel
theorem dX3_fillSet_10 : decode cX3_fillSet 10 = .ok (.if_icmp .ge 98, 3) := by decide +kernel
theorem dX3_fillSet_13 : decode cX3_fillSet 13 = .ok (.iload_n 3, 1) := by decide +kernel
theorem dX3_fillSet_14 : decode cX3_fillSet 14 = .ok (.ifCond .eq 18, 3) := by decide +kernel
theorem dX3_fillSet_17 : decode cX3_fillSet 17 = .ok (.aload_n 0, 1) := by decide +kernel
theorem dX3_fillSet_18 : decode cX3_fillSet 18 = .ok (.getfield 18, 3) := by decide +kernel
theorem dX3_fillSet_21 : decode cX3_fillSet 21 = .ok (.iload_n 2, 1) := by decide +kernel
theorem dX3_fillSet_22 : decode cX3_fillSet 22 = .ok (.iconst (-1), 1) := by decide +kernel
theorem dX3_fillSet_23 : decode cX3_fillSet 23 = .ok (.ixor, 1) := by decide +kernel
theorem dX3_fillSet_24 : decode cX3_fillSet 24 = .ok (.iand, 1) := by decide +kernel
theorem dX3_fillSet_25 : decode cX3_fillSet 25 = .ok (.iload_n 3, 1) := by decide +kernel
theorem dX3_fillSet_26 : decode cX3_fillSet 26 = .ok (.invokestatic 69, 3) := by decide +kernel
theorem dX3_fillSet_29 : decode cX3_fillSet 29 = .ok (.ifCond .eq 7, 3) := by decide +kernel
theorem dX3_fillSet_32 : decode cX3_fillSet 32 = .ok (.iconst 1, 1) := by decide +kernel
theorem dX3_fillSet_33 : decode cX3_fillSet 33 = .ok (.goto 4, 3) := by decide +kernel
theorem dX3_fillSet_36 : decode cX3_fillSet 36 = .ok (.iconst 0, 1) := by decide +kernel
theorem dX3_fillSet_37 : decode cX3_fillSet 37 = .ok (.istore 4, 2) := by decide +kernel
theorem dX3_fillSet_39 : decode cX3_fillSet 39 = .ok (.iload 4, 2) := by decide +kernel
theorem dX3_fillSet_41 : decode cX3_fillSet 41 = .ok (.ifCond .eq 28, 3) := by decide +kernel
theorem dX3_fillSet_44 : decode cX3_fillSet 44 = .ok (.iload_n 2, 1) := by decide +kernel
theorem dX3_fillSet_45 : decode cX3_fillSet 45 = .ok (.ifCond .ne 24, 3) := by decide +kernel
theorem dX3_fillSet_48 : decode cX3_fillSet 48 = .ok (.aload_n 0, 1) := by decide +kernel
theorem dX3_fillSet_49 : decode cX3_fillSet 49 = .ok (.getfield 11, 3) := by decide +kernel
theorem dX3_fillSet_52 : decode cX3_fillSet 52 = .ok (.iload_n 3, 1) := by decide +kernel
theorem dX3_fillSet_53 : decode cX3_fillSet 53 = .ok (.aload_n 0, 1) := by decide +kernel
theorem dX3_fillSet_54 : decode cX3_fillSet 54 = .ok (.getfield 15, 3) := by decide +kernel
theorem dX3_fillSet_57 : decode cX3_fillSet 57 = .ok (.iload_n 3, 1) := by decide +kernel
theorem dX3_fillSet_58 : decode cX3_fillSet 58 = .ok (.bipush 9, 2) := by decide +kernel
theorem dX3_fillSet_60 : decode cX3_fillSet 60 = .ok (.imul, 1) := by decide +kernel
theorem dX3_fillSet_61 : decode cX3_fillSet 61 = .ok (.bipush 8, 2) := by decide +kernel
theorem dX3_fillSet_63 : decode cX3_fillSet 63 = .ok (.iadd, 1) := by decide +kernel
theorem dX3_fillSet_64 : decode cX3_fillSet 64 = .ok (.iaload, 1) := by decide +kernel
theorem dX3_fillSet_65 : decode cX3_fillSet 65 = .ok (.iastore, 1) := by decide +kernel
theorem dX3_fillSet_66 : decode cX3_fillSet 66 = .ok (.goto 36, 3) := by decide +kernel
theorem dX3_fillSet_69 : decode cX3_fillSet 69 = .ok (.iload 4, 2) := by decide +kernel
theorem dX3_fillSet_71 : decode cX3_fillSet 71 = .ok (.ifCond .eq 31, 3) := by decide +kernel
theorem dX3_fillSet_74 : decode cX3_fillSet 74 = .ok (.aload_n 0, 1) := by decide +kernel
theorem dX3_fillSet_75 : decode cX3_fillSet 75 = .ok (.aload_n 1, 1) := by decide +kernel
theorem dX3_fillSet_76 : decode cX3_fillSet 76 = .ok (.iload_n 2, 1) := by decide +kernel
theorem dX3_fillSet_77 : decode cX3_fillSet 77 = .ok (.iload_n 3, 1) := by decide +kernel
theorem dX3_fillSet_78 : decode cX3_fillSet 78 = .ok (.invokevirtual 65, 3) := by decide +kernel
theorem dX3_fillSet_81 : decode cX3_fillSet 81 = .ok (.istore 5, 2) := by decide +kernel
theorem dX3_fillSet_83 : decode cX3_fillSet 83 = .ok (.aload_n 0, 1) := by decide +kernel
theorem dX3_fillSet_84 : decode cX3_fillSet 84 = .ok (.getfield 11, 3) := by decide +kernel
theorem dX3_fillSet_87 : decode cX3_fillSet 87 = .ok (.iload_n 2, 1) := by decide +kernel
theorem dX3_fillSet_88 : decode cX3_fillSet 88 = .ok (.bipush 8, 2) := by decide +kernel
theorem dX3_fillSet_90 : decode cX3_fillSet 90 = .ok (.imul, 1) := by decide +kernel
theorem dX3_fillSet_91 : decode cX3_fillSet 91 = .ok (.iload_n 3, 1) := by decide +kernel
theorem dX3_fillSet_92 : decode cX3_fillSet 92 = .ok (.iadd, 1) := by decide +kernel
theorem dX3_fillSet_93 : decode cX3_fillSet 93 = .ok (.aload_n 0, 1) := by decide +kernel
theorem dX3_fillSet_94 : decode cX3_fillSet 94 = .ok (.iload_n 2, 1) := by decide +kernel
theorem dX3_fillSet_95 : decode cX3_fillSet 95 = .ok (.iload_n 3, 1) := by decide +kernel
theorem dX3_fillSet_96 : decode cX3_fillSet 96 = .ok (.iload 5, 2) := by decide +kernel
theorem dX3_fillSet_98 : decode cX3_fillSet 98 = .ok (.invokevirtual 73, 3) := by decide +kernel
theorem dX3_fillSet_101 : decode cX3_fillSet 101 = .ok (.iastore, 1) := by decide +kernel
theorem dX3_fillSet_102 : decode cX3_fillSet 102 = .ok (.iinc 3 1, 3) := by decide +kernel
theorem dX3_fillSet_105 : decode cX3_fillSet 105 = .ok (.goto (-103), 3) := by decide +kernel
theorem dX3_fillSet_108 : decode cX3_fillSet 108 = .ok (.return_, 1) := by decide +kernel
theorem dX3_cheapestNext_0 : decode cX3_cheapestNext 0 = .ok (.iconst 0, 1) := by decide +kernel
theorem dX3_cheapestNext_1 : decode cX3_cheapestNext 1 = .ok (.istore 4, 2) := by decide +kernel
theorem dX3_cheapestNext_3 : decode cX3_cheapestNext 3 = .ok (.iconst 0, 1) := by decide +kernel
theorem dX3_cheapestNext_4 : decode cX3_cheapestNext 4 = .ok (.istore 5, 2) := by decide +kernel
theorem dX3_cheapestNext_6 : decode cX3_cheapestNext 6 = .ok (.iconst 1, 1) := by decide +kernel
theorem dX3_cheapestNext_7 : decode cX3_cheapestNext 7 = .ok (.istore 6, 2) := by decide +kernel
theorem dX3_cheapestNext_9 : decode cX3_cheapestNext 9 = .ok (.iload 6, 2) := by decide +kernel
theorem dX3_cheapestNext_11 : decode cX3_cheapestNext 11 = .ok (.aload_n 1, 1) := by decide +kernel
theorem dX3_cheapestNext_12 : decode cX3_cheapestNext 12 = .ok (.getfield 42, 3) := by decide +kernel
theorem dX3_cheapestNext_15 : decode cX3_cheapestNext 15 = .ok (.getfield 46, 3) := by decide +kernel
theorem dX3_cheapestNext_18 : decode cX3_cheapestNext 18 = .ok (.if_icmp .ge 48, 3) := by decide +kernel
theorem dX3_cheapestNext_21 : decode cX3_cheapestNext 21 = .ok (.iload_n 2, 1) := by decide +kernel
theorem dX3_cheapestNext_22 : decode cX3_cheapestNext 22 = .ok (.iload 6, 2) := by decide +kernel
theorem dX3_cheapestNext_24 : decode cX3_cheapestNext 24 = .ok (.invokestatic 69, 3) := by decide +kernel
theorem dX3_cheapestNext_27 : decode cX3_cheapestNext 27 = .ok (.ifCond .eq 33, 3) := by decide +kernel
theorem dX3_cheapestNext_30 : decode cX3_cheapestNext 30 = .ok (.aload_n 0, 1) := by decide +kernel
theorem dX3_cheapestNext_31 : decode cX3_cheapestNext 31 = .ok (.iload_n 2, 1) := by decide +kernel
theorem dX3_cheapestNext_32 : decode cX3_cheapestNext 32 = .ok (.iload_n 3, 1) := by decide +kernel
theorem dX3_cheapestNext_33 : decode cX3_cheapestNext 33 = .ok (.iload 6, 2) := by decide +kernel
theorem dX3_cheapestNext_35 : decode cX3_cheapestNext 35 = .ok (.invokevirtual 73, 3) := by decide +kernel
theorem dX3_cheapestNext_38 : decode cX3_cheapestNext 38 = .ok (.istore 7, 2) := by decide +kernel
theorem dX3_cheapestNext_40 : decode cX3_cheapestNext 40 = .ok (.iload 4, 2) := by decide +kernel
theorem dX3_cheapestNext_42 : decode cX3_cheapestNext 42 = .ok (.ifCond .eq 10, 3) := by decide +kernel
theorem dX3_cheapestNext_45 : decode cX3_cheapestNext 45 = .ok (.iload 7, 2) := by decide +kernel
theorem dX3_cheapestNext_47 : decode cX3_cheapestNext 47 = .ok (.iload 5, 2) := by decide +kernel
theorem dX3_cheapestNext_49 : decode cX3_cheapestNext 49 = .ok (.if_icmp .ge 11, 3) := by decide +kernel
theorem dX3_cheapestNext_52 : decode cX3_cheapestNext 52 = .ok (.iload 6, 2) := by decide +kernel
theorem dX3_cheapestNext_54 : decode cX3_cheapestNext 54 = .ok (.istore 4, 2) := by decide +kernel
theorem dX3_cheapestNext_56 : decode cX3_cheapestNext 56 = .ok (.iload 7, 2) := by decide +kernel
theorem dX3_cheapestNext_58 : decode cX3_cheapestNext 58 = .ok (.istore 5, 2) := by decide +kernel
theorem dX3_cheapestNext_60 : decode cX3_cheapestNext 60 = .ok (.iinc 6 1, 3) := by decide +kernel
theorem dX3_cheapestNext_63 : decode cX3_cheapestNext 63 = .ok (.goto (-54), 3) := by decide +kernel
theorem dX3_cheapestNext_66 : decode cX3_cheapestNext 66 = .ok (.iload 4, 2) := by decide +kernel
theorem dX3_cheapestNext_68 : decode cX3_cheapestNext 68 = .ok (.ireturn, 1) := by decide +kernel
theorem dX3_costThrough_0 : decode cX3_costThrough 0 = .ok (.iload_n 1, 1) := by decide +kernel
theorem dX3_costThrough_1 : decode cX3_costThrough 1 = .ok (.iconst 1, 1) := by decide +kernel
theorem dX3_costThrough_2 : decode cX3_costThrough 2 = .ok (.iload_n 3, 1) := by decide +kernel
theorem dX3_costThrough_3 : decode cX3_costThrough 3 = .ok (.ishl, 1) := by decide +kernel
theorem dX3_costThrough_4 : decode cX3_costThrough 4 = .ok (.iconst (-1), 1) := by decide +kernel
theorem dX3_costThrough_5 : decode cX3_costThrough 5 = .ok (.ixor, 1) := by decide +kernel
theorem dX3_costThrough_6 : decode cX3_costThrough 6 = .ok (.iand, 1) := by decide +kernel
theorem dX3_costThrough_7 : decode cX3_costThrough 7 = .ok (.istore 4, 2) := by decide +kernel
theorem dX3_costThrough_9 : decode cX3_costThrough 9 = .ok (.aload_n 0, 1) := by decide +kernel
theorem dX3_costThrough_10 : decode cX3_costThrough 10 = .ok (.getfield 15, 3) := by decide +kernel
theorem dX3_costThrough_13 : decode cX3_costThrough 13 = .ok (.iload_n 2, 1) := by decide +kernel
theorem dX3_costThrough_14 : decode cX3_costThrough 14 = .ok (.bipush 9, 2) := by decide +kernel
theorem dX3_costThrough_16 : decode cX3_costThrough 16 = .ok (.imul, 1) := by decide +kernel
theorem dX3_costThrough_17 : decode cX3_costThrough 17 = .ok (.iload_n 3, 1) := by decide +kernel
theorem dX3_costThrough_18 : decode cX3_costThrough 18 = .ok (.iadd, 1) := by decide +kernel
theorem dX3_costThrough_19 : decode cX3_costThrough 19 = .ok (.iaload, 1) := by decide +kernel
theorem dX3_costThrough_20 : decode cX3_costThrough 20 = .ok (.aload_n 0, 1) := by decide +kernel
theorem dX3_costThrough_21 : decode cX3_costThrough 21 = .ok (.getfield 11, 3) := by decide +kernel
theorem dX3_costThrough_24 : decode cX3_costThrough 24 = .ok (.iload 4, 2) := by decide +kernel
theorem dX3_costThrough_26 : decode cX3_costThrough 26 = .ok (.bipush 8, 2) := by decide +kernel
theorem dX3_costThrough_28 : decode cX3_costThrough 28 = .ok (.imul, 1) := by decide +kernel
theorem dX3_costThrough_29 : decode cX3_costThrough 29 = .ok (.iload_n 3, 1) := by decide +kernel
theorem dX3_costThrough_30 : decode cX3_costThrough 30 = .ok (.iadd, 1) := by decide +kernel
theorem dX3_costThrough_31 : decode cX3_costThrough 31 = .ok (.iaload, 1) := by decide +kernel
theorem dX3_costThrough_32 : decode cX3_costThrough 32 = .ok (.iadd, 1) := by decide +kernel
theorem dX3_costThrough_33 : decode cX3_costThrough 33 = .ok (.ireturn, 1) := by decide +kernel
theorem dX3_contains_0 : decode cX3_contains 0 = .ok (.iload_n 0, 1) := by decide +kernel
theorem dX3_contains_1 : decode cX3_contains 1 = .ok (.iload_n 1, 1) := by decide +kernel
theorem dX3_contains_2 : decode cX3_contains 2 = .ok (.ishr, 1) := by decide +kernel
theorem dX3_contains_3 : decode cX3_contains 3 = .ok (.iconst 1, 1) := by decide +kernel
theorem dX3_contains_4 : decode cX3_contains 4 = .ok (.iand, 1) := by decide +kernel
theorem dX3_contains_5 : decode cX3_contains 5 = .ok (.ifCond .eq 7, 3) := by decide +kernel
theorem dX3_contains_8 : decode cX3_contains 8 = .ok (.iconst 1, 1) := by decide +kernel
theorem dX3_contains_9 : decode cX3_contains 9 = .ok (.goto 4, 3) := by decide +kernel
theorem dX3_contains_12 : decode cX3_contains 12 = .ok (.iconst 0, 1) := by decide +kernel
theorem dX3_contains_13 : decode cX3_contains 13 = .ok (.ireturn, 1) := by decide +kernel
theorem dX4_startOf_0 : decode cX4_startOf 0 = .ok (.iconst 0, 1) := by decide +kernel
theorem dX4_startOf_1 : decode cX4_startOf 1 = .ok (.istore_n 2, 1) := by decide +kernel
theorem dX4_startOf_2 : decode cX4_startOf 2 = .ok (.iconst 0, 1) := by decide +kernel
theorem dX4_startOf_3 : decode cX4_startOf 3 = .ok (.istore_n 3, 1) := by decide +kernel
theorem dX4_startOf_4 : decode cX4_startOf 4 = .ok (.iload_n 3, 1) := by decide +kernel
theorem dX4_startOf_5 : decode cX4_startOf 5 = .ok (.aload_n 0, 1) := by decide +kernel
theorem dX4_startOf_6 : decode cX4_startOf 6 = .ok (.getfield 9, 3) := by decide +kernel
theorem dX4_startOf_9 : decode cX4_startOf 9 = .ok (.getfield 15, 3) := by decide +kernel
theorem dX4_startOf_12 : decode cX4_startOf 12 = .ok (.if_icmp .ge 39, 3) := by decide +kernel
theorem dX4_startOf_15 : decode cX4_startOf 15 = .ok (.aload_n 0, 1) := by decide +kernel
theorem dX4_startOf_16 : decode cX4_startOf 16 = .ok (.iload_n 3, 1) := by decide +kernel
theorem dX4_startOf_17 : decode cX4_startOf 17 = .ok (.iload_n 2, 1) := by decide +kernel
theorem dX4_startOf_18 : decode cX4_startOf 18 = .ok (.invokestatic 21, 3) := by decide +kernel
theorem dX4_startOf_21 : decode cX4_startOf 21 = .ok (.istore 4, 2) := by decide +kernel
theorem dX4_startOf_23 : decode cX4_startOf 23 = .ok (.aload_n 0, 1) := by decide +kernel
theorem dX4_startOf_24 : decode cX4_startOf 24 = .ok (.getfield 27, 3) := by decide +kernel
theorem dX4_startOf_27 : decode cX4_startOf 27 = .ok (.iload_n 3, 1) := by decide +kernel
theorem dX4_startOf_28 : decode cX4_startOf 28 = .ok (.iaload, 1) := by decide +kernel
theorem dX4_startOf_29 : decode cX4_startOf 29 = .ok (.iload_n 1, 1) := by decide +kernel
theorem dX4_startOf_30 : decode cX4_startOf 30 = .ok (.if_icmp .ne 6, 3) := by decide +kernel
theorem dX4_startOf_33 : decode cX4_startOf 33 = .ok (.iload 4, 2) := by decide +kernel
theorem dX4_startOf_35 : decode cX4_startOf 35 = .ok (.ireturn, 1) := by decide +kernel
theorem dX4_startOf_36 : decode cX4_startOf 36 = .ok (.iload 4, 2) := by decide +kernel
theorem dX4_startOf_38 : decode cX4_startOf 38 = .ok (.aload_n 0, 1) := by decide +kernel
theorem dX4_startOf_39 : decode cX4_startOf 39 = .ok (.iload_n 3, 1) := by decide +kernel
theorem dX4_startOf_40 : decode cX4_startOf 40 = .ok (.invokestatic 31, 3) := by decide +kernel
theorem dX4_startOf_43 : decode cX4_startOf 43 = .ok (.iadd, 1) := by decide +kernel
theorem dX4_startOf_44 : decode cX4_startOf 44 = .ok (.istore_n 2, 1) := by decide +kernel
theorem dX4_startOf_45 : decode cX4_startOf 45 = .ok (.iinc 3 1, 3) := by decide +kernel
theorem dX4_startOf_48 : decode cX4_startOf 48 = .ok (.goto (-44), 3) := by decide +kernel
theorem dX4_startOf_51 : decode cX4_startOf 51 = .ok (.iconst (-1), 1) := by decide +kernel
theorem dX4_startOf_52 : decode cX4_startOf 52 = .ok (.ireturn, 1) := by decide +kernel
theorem dX4_endOfCode_0 : decode cX4_endOfCode 0 = .ok (.iconst 0, 1) := by decide +kernel
theorem dX4_endOfCode_1 : decode cX4_endOfCode 1 = .ok (.istore_n 1, 1) := by decide +kernel
theorem dX4_endOfCode_2 : decode cX4_endOfCode 2 = .ok (.iconst 0, 1) := by decide +kernel
theorem dX4_endOfCode_3 : decode cX4_endOfCode 3 = .ok (.istore_n 2, 1) := by decide +kernel
theorem dX4_endOfCode_4 : decode cX4_endOfCode 4 = .ok (.iload_n 2, 1) := by decide +kernel
theorem dX4_endOfCode_5 : decode cX4_endOfCode 5 = .ok (.aload_n 0, 1) := by decide +kernel
theorem dX4_endOfCode_6 : decode cX4_endOfCode 6 = .ok (.getfield 9, 3) := by decide +kernel
theorem dX4_endOfCode_9 : decode cX4_endOfCode 9 = .ok (.getfield 15, 3) := by decide +kernel
theorem dX4_endOfCode_12 : decode cX4_endOfCode 12 = .ok (.if_icmp .ge 22, 3) := by decide +kernel
theorem dX4_endOfCode_15 : decode cX4_endOfCode 15 = .ok (.aload_n 0, 1) := by decide +kernel
theorem dX4_endOfCode_16 : decode cX4_endOfCode 16 = .ok (.iload_n 2, 1) := by decide +kernel
theorem dX4_endOfCode_17 : decode cX4_endOfCode 17 = .ok (.iload_n 1, 1) := by decide +kernel
theorem dX4_endOfCode_18 : decode cX4_endOfCode 18 = .ok (.invokestatic 21, 3) := by decide +kernel
theorem dX4_endOfCode_21 : decode cX4_endOfCode 21 = .ok (.aload_n 0, 1) := by decide +kernel
theorem dX4_endOfCode_22 : decode cX4_endOfCode 22 = .ok (.iload_n 2, 1) := by decide +kernel
theorem dX4_endOfCode_23 : decode cX4_endOfCode 23 = .ok (.invokestatic 31, 3) := by decide +kernel
theorem dX4_endOfCode_26 : decode cX4_endOfCode 26 = .ok (.iadd, 1) := by decide +kernel
theorem dX4_endOfCode_27 : decode cX4_endOfCode 27 = .ok (.istore_n 1, 1) := by decide +kernel
theorem dX4_endOfCode_28 : decode cX4_endOfCode 28 = .ok (.iinc 2 1, 3) := by decide +kernel
theorem dX4_endOfCode_31 : decode cX4_endOfCode 31 = .ok (.goto (-27), 3) := by decide +kernel
theorem dX4_endOfCode_34 : decode cX4_endOfCode 34 = .ok (.iload_n 1, 1) := by decide +kernel
theorem dX4_endOfCode_35 : decode cX4_endOfCode 35 = .ok (.ireturn, 1) := by decide +kernel
theorem dX4_startAt_0 : decode cX4_startAt 0 = .ok (.iload_n 1, 1) := by decide +kernel
theorem dX4_startAt_1 : decode cX4_startAt 1 = .ok (.aload_n 0, 1) := by decide +kernel
theorem dX4_startAt_2 : decode cX4_startAt 2 = .ok (.getfield 35, 3) := by decide +kernel
theorem dX4_startAt_5 : decode cX4_startAt 5 = .ok (.if_icmp .ne 10, 3) := by decide +kernel
theorem dX4_startAt_8 : decode cX4_startAt 8 = .ok (.iload_n 2, 1) := by decide +kernel
theorem dX4_startAt_9 : decode cX4_startAt 9 = .ok (.bipush 16, 2) := by decide +kernel
theorem dX4_startAt_11 : decode cX4_startAt 11 = .ok (.invokestatic 38, 3) := by decide +kernel
theorem dX4_startAt_14 : decode cX4_startAt 14 = .ok (.ireturn, 1) := by decide +kernel
theorem dX4_startAt_15 : decode cX4_startAt 15 = .ok (.aload_n 0, 1) := by decide +kernel
theorem dX4_startAt_16 : decode cX4_startAt 16 = .ok (.iload_n 1, 1) := by decide +kernel
theorem dX4_startAt_17 : decode cX4_startAt 17 = .ok (.invokestatic 42, 3) := by decide +kernel
theorem dX4_startAt_20 : decode cX4_startAt 20 = .ok (.ifCond .eq 14, 3) := by decide +kernel
theorem dX4_startAt_23 : decode cX4_startAt 23 = .ok (.iload_n 2, 1) := by decide +kernel
theorem dX4_startAt_24 : decode cX4_startAt 24 = .ok (.aload_n 0, 1) := by decide +kernel
theorem dX4_startAt_25 : decode cX4_startAt 25 = .ok (.getfield 46, 3) := by decide +kernel
theorem dX4_startAt_28 : decode cX4_startAt 28 = .ok (.invokestatic 38, 3) := by decide +kernel
theorem dX4_startAt_31 : decode cX4_startAt 31 = .ok (.goto 4, 3) := by decide +kernel
theorem dX4_startAt_34 : decode cX4_startAt 34 = .ok (.iload_n 2, 1) := by decide +kernel
theorem dX4_startAt_35 : decode cX4_startAt 35 = .ok (.ireturn, 1) := by decide +kernel
theorem dX4_bytesAt_0 : decode cX4_bytesAt 0 = .ok (.aload_n 0, 1) := by decide +kernel
theorem dX4_bytesAt_1 : decode cX4_bytesAt 1 = .ok (.getfield 27, 3) := by decide +kernel
theorem dX4_bytesAt_4 : decode cX4_bytesAt 4 = .ok (.iload_n 1, 1) := by decide +kernel
theorem dX4_bytesAt_5 : decode cX4_bytesAt 5 = .ok (.iaload, 1) := by decide +kernel
theorem dX4_bytesAt_6 : decode cX4_bytesAt 6 = .ok (.istore_n 2, 1) := by decide +kernel
theorem dX4_bytesAt_7 : decode cX4_bytesAt 7 = .ok (.aload_n 0, 1) := by decide +kernel
theorem dX4_bytesAt_8 : decode cX4_bytesAt 8 = .ok (.getfield 9, 3) := by decide +kernel
theorem dX4_bytesAt_11 : decode cX4_bytesAt 11 = .ok (.getfield 49, 3) := by decide +kernel
theorem dX4_bytesAt_14 : decode cX4_bytesAt 14 = .ok (.iload_n 2, 1) := by decide +kernel
theorem dX4_bytesAt_15 : decode cX4_bytesAt 15 = .ok (.iaload, 1) := by decide +kernel
theorem dX4_bytesAt_16 : decode cX4_bytesAt 16 = .ok (.aload_n 0, 1) := by decide +kernel
theorem dX4_bytesAt_17 : decode cX4_bytesAt 17 = .ok (.iload_n 2, 1) := by decide +kernel
theorem dX4_bytesAt_18 : decode cX4_bytesAt 18 = .ok (.aload_n 0, 1) := by decide +kernel
theorem dX4_bytesAt_19 : decode cX4_bytesAt 19 = .ok (.iload_n 1, 1) := by decide +kernel
theorem dX4_bytesAt_20 : decode cX4_bytesAt 20 = .ok (.invokevirtual 52, 3) := by decide +kernel
theorem dX4_bytesAt_23 : decode cX4_bytesAt 23 = .ok (.invokevirtual 56, 3) := by decide +kernel
theorem dX4_bytesAt_26 : decode cX4_bytesAt 26 = .ok (.iadd, 1) := by decide +kernel
theorem dX4_bytesAt_27 : decode cX4_bytesAt 27 = .ok (.ireturn, 1) := by decide +kernel
theorem dX4_isLoopHead_0 : decode cX4_isLoopHead 0 = .ok (.iload_n 1, 1) := by decide +kernel
theorem dX4_isLoopHead_1 : decode cX4_isLoopHead 1 = .ok (.istore_n 2, 1) := by decide +kernel
theorem dX4_isLoopHead_2 : decode cX4_isLoopHead 2 = .ok (.iload_n 2, 1) := by decide +kernel
theorem dX4_isLoopHead_3 : decode cX4_isLoopHead 3 = .ok (.aload_n 0, 1) := by decide +kernel
theorem dX4_isLoopHead_4 : decode cX4_isLoopHead 4 = .ok (.getfield 35, 3) := by decide +kernel
theorem dX4_isLoopHead_7 : decode cX4_isLoopHead 7 = .ok (.if_icmp .ge 30, 3) := by decide +kernel
theorem dX4_isLoopHead_10 : decode cX4_isLoopHead 10 = .ok (.aload_n 0, 1) := by decide +kernel
theorem dX4_isLoopHead_11 : decode cX4_isLoopHead 11 = .ok (.aload_n 0, 1) := by decide +kernel
theorem dX4_isLoopHead_12 : decode cX4_isLoopHead 12 = .ok (.getfield 27, 3) := by decide +kernel
theorem dX4_isLoopHead_15 : decode cX4_isLoopHead 15 = .ok (.iload_n 2, 1) := by decide +kernel
theorem dX4_isLoopHead_16 : decode cX4_isLoopHead 16 = .ok (.iaload, 1) := by decide +kernel
theorem dX4_isLoopHead_17 : decode cX4_isLoopHead 17 = .ok (.aload_n 0, 1) := by decide +kernel
theorem dX4_isLoopHead_18 : decode cX4_isLoopHead 18 = .ok (.getfield 27, 3) := by decide +kernel
theorem dX4_isLoopHead_21 : decode cX4_isLoopHead 21 = .ok (.iload_n 1, 1) := by decide +kernel
theorem dX4_isLoopHead_22 : decode cX4_isLoopHead 22 = .ok (.iaload, 1) := by decide +kernel
theorem dX4_isLoopHead_23 : decode cX4_isLoopHead 23 = .ok (.invokevirtual 59, 3) := by decide +kernel
theorem dX4_isLoopHead_26 : decode cX4_isLoopHead 26 = .ok (.ifCond .eq 5, 3) := by decide +kernel
theorem dX4_isLoopHead_29 : decode cX4_isLoopHead 29 = .ok (.iconst 1, 1) := by decide +kernel
theorem dX4_isLoopHead_30 : decode cX4_isLoopHead 30 = .ok (.ireturn, 1) := by decide +kernel
theorem dX4_isLoopHead_31 : decode cX4_isLoopHead 31 = .ok (.iinc 2 1, 3) := by decide +kernel
theorem dX4_isLoopHead_34 : decode cX4_isLoopHead 34 = .ok (.goto (-32), 3) := by decide +kernel
theorem dX4_isLoopHead_37 : decode cX4_isLoopHead 37 = .ok (.iconst 0, 1) := by decide +kernel
theorem dX4_isLoopHead_38 : decode cX4_isLoopHead 38 = .ok (.ireturn, 1) := by decide +kernel
theorem dX4_roundUp_0 : decode cX4_roundUp 0 = .ok (.iload_n 0, 1) := by decide +kernel
theorem dX4_roundUp_1 : decode cX4_roundUp 1 = .ok (.iload_n 1, 1) := by decide +kernel
theorem dX4_roundUp_2 : decode cX4_roundUp 2 = .ok (.iadd, 1) := by decide +kernel
theorem dX4_roundUp_3 : decode cX4_roundUp 3 = .ok (.iconst 1, 1) := by decide +kernel
theorem dX4_roundUp_4 : decode cX4_roundUp 4 = .ok (.isub, 1) := by decide +kernel
theorem dX4_roundUp_5 : decode cX4_roundUp 5 = .ok (.iload_n 1, 1) := by decide +kernel
theorem dX4_roundUp_6 : decode cX4_roundUp 6 = .ok (.ineg, 1) := by decide +kernel
theorem dX4_roundUp_7 : decode cX4_roundUp 7 = .ok (.iand, 1) := by decide +kernel
theorem dX4_roundUp_8 : decode cX4_roundUp 8 = .ok (.ireturn, 1) := by decide +kernel
theorem dX5_isWellFormed_0 : decode cX5_isWellFormed 0 = .ok (.iload_n 0, 1) := by decide +kernel
theorem dX5_isWellFormed_1 : decode cX5_isWellFormed 1 = .ok (.iconst 1, 1) := by decide +kernel
theorem dX5_isWellFormed_2 : decode cX5_isWellFormed 2 = .ok (.if_icmp .lt 28, 3) := by decide +kernel
theorem dX5_isWellFormed_5 : decode cX5_isWellFormed 5 = .ok (.iload_n 0, 1) := by decide +kernel
theorem dX5_isWellFormed_6 : decode cX5_isWellFormed 6 = .ok (.iconst 4, 1) := by decide +kernel
theorem dX5_isWellFormed_7 : decode cX5_isWellFormed 7 = .ok (.if_icmp .gt 23, 3) := by decide +kernel
theorem dX5_isWellFormed_10 : decode cX5_isWellFormed 10 = .ok (.lload_n 1, 1) := by decide +kernel
theorem dX5_isWellFormed_11 : decode cX5_isWellFormed 11 = .ok (.lconst 0, 1) := by decide +kernel
theorem dX5_isWellFormed_12 : decode cX5_isWellFormed 12 = .ok (.lcmp, 1) := by decide +kernel
theorem dX5_isWellFormed_13 : decode cX5_isWellFormed 13 = .ok (.ifCond .lt 17, 3) := by decide +kernel
theorem dX5_isWellFormed_16 : decode cX5_isWellFormed 16 = .ok (.lload_n 1, 1) := by decide +kernel
theorem dX5_isWellFormed_17 : decode cX5_isWellFormed 17 = .ok (.iload_n 0, 1) := by decide +kernel
theorem dX5_isWellFormed_18 : decode cX5_isWellFormed 18 = .ok (.invokestatic 9, 3) := by decide +kernel
theorem dX5_isWellFormed_21 : decode cX5_isWellFormed 21 = .ok (.lconst 0, 1) := by decide +kernel
theorem dX5_isWellFormed_22 : decode cX5_isWellFormed 22 = .ok (.lcmp, 1) := by decide +kernel
theorem dX5_isWellFormed_23 : decode cX5_isWellFormed 23 = .ok (.ifCond .ne 7, 3) := by decide +kernel
theorem dX5_isWellFormed_26 : decode cX5_isWellFormed 26 = .ok (.iconst 1, 1) := by decide +kernel
theorem dX5_isWellFormed_27 : decode cX5_isWellFormed 27 = .ok (.goto 4, 3) := by decide +kernel
theorem dX5_isWellFormed_30 : decode cX5_isWellFormed 30 = .ok (.iconst 0, 1) := by decide +kernel
theorem dX5_isWellFormed_31 : decode cX5_isWellFormed 31 = .ok (.ireturn, 1) := by decide +kernel
theorem dX5_firstFailure_0 : decode cX5_firstFailure 0 = .ok (.iconst 0, 1) := by decide +kernel
theorem dX5_firstFailure_1 : decode cX5_firstFailure 1 = .ok (.istore 4, 2) := by decide +kernel
theorem dX5_firstFailure_3 : decode cX5_firstFailure 3 = .ok (.iload 4, 2) := by decide +kernel
theorem dX5_firstFailure_5 : decode cX5_firstFailure 5 = .ok (.iload_n 1, 1) := by decide +kernel
theorem dX5_firstFailure_6 : decode cX5_firstFailure 6 = .ok (.if_icmp .ge 38, 3) := by decide +kernel
theorem dX5_firstFailure_9 : decode cX5_firstFailure 9 = .ok (.lload_n 2, 1) := by decide +kernel
theorem dX5_firstFailure_10 : decode cX5_firstFailure 10 = .ok (.iload_n 1, 1) := by decide +kernel
theorem dX5_firstFailure_11 : decode cX5_firstFailure 11 = .ok (.iconst 1, 1) := by decide +kernel
theorem dX5_firstFailure_12 : decode cX5_firstFailure 12 = .ok (.isub, 1) := by decide +kernel
theorem dX5_firstFailure_13 : decode cX5_firstFailure 13 = .ok (.iload 4, 2) := by decide +kernel
theorem dX5_firstFailure_15 : decode cX5_firstFailure 15 = .ok (.isub, 1) := by decide +kernel
theorem dX5_firstFailure_16 : decode cX5_firstFailure 16 = .ok (.invokestatic 9, 3) := by decide +kernel
theorem dX5_firstFailure_19 : decode cX5_firstFailure 19 = .ok (.ldc2_w 15, 3) := by decide +kernel
theorem dX5_firstFailure_22 : decode cX5_firstFailure 22 = .ok (.lrem, 1) := by decide +kernel
theorem dX5_firstFailure_23 : decode cX5_firstFailure 23 = .ok (.l2i, 1) := by decide +kernel
theorem dX5_firstFailure_24 : decode cX5_firstFailure 24 = .ok (.istore 5, 2) := by decide +kernel
theorem dX5_firstFailure_26 : decode cX5_firstFailure 26 = .ok (.aload_n 0, 1) := by decide +kernel
theorem dX5_firstFailure_27 : decode cX5_firstFailure 27 = .ok (.iload 5, 2) := by decide +kernel
theorem dX5_firstFailure_29 : decode cX5_firstFailure 29 = .ok (.invokestatic 17, 3) := by decide +kernel
theorem dX5_firstFailure_32 : decode cX5_firstFailure 32 = .ok (.ifCond .ne 6, 3) := by decide +kernel
theorem dX5_firstFailure_35 : decode cX5_firstFailure 35 = .ok (.iload 4, 2) := by decide +kernel
theorem dX5_firstFailure_37 : decode cX5_firstFailure 37 = .ok (.ireturn, 1) := by decide +kernel
theorem dX5_firstFailure_38 : decode cX5_firstFailure 38 = .ok (.iinc 4 1, 3) := by decide +kernel
theorem dX5_firstFailure_41 : decode cX5_firstFailure 41 = .ok (.goto (-38), 3) := by decide +kernel
theorem dX5_firstFailure_44 : decode cX5_firstFailure 44 = .ok (.bipush (-9), 2) := by decide +kernel
theorem dX5_firstFailure_46 : decode cX5_firstFailure 46 = .ok (.ireturn, 1) := by decide +kernel
theorem dX5_withoutLowest_0 : decode cX5_withoutLowest 0 = .ok (.lload_n 0, 1) := by decide +kernel
theorem dX5_withoutLowest_1 : decode cX5_withoutLowest 1 = .ok (.lstore_n 3, 1) := by decide +kernel
theorem dX5_withoutLowest_2 : decode cX5_withoutLowest 2 = .ok (.iconst 0, 1) := by decide +kernel
theorem dX5_withoutLowest_3 : decode cX5_withoutLowest 3 = .ok (.istore 5, 2) := by decide +kernel
theorem dX5_withoutLowest_5 : decode cX5_withoutLowest 5 = .ok (.iload 5, 2) := by decide +kernel
theorem dX5_withoutLowest_7 : decode cX5_withoutLowest 7 = .ok (.iload_n 2, 1) := by decide +kernel
theorem dX5_withoutLowest_8 : decode cX5_withoutLowest 8 = .ok (.if_icmp .ge 15, 3) := by decide +kernel
theorem dX5_withoutLowest_11 : decode cX5_withoutLowest 11 = .ok (.lload_n 3, 1) := by decide +kernel
theorem dX5_withoutLowest_12 : decode cX5_withoutLowest 12 = .ok (.ldc2_w 15, 3) := by decide +kernel
theorem dX5_withoutLowest_15 : decode cX5_withoutLowest 15 = .ok (.ldiv, 1) := by decide +kernel
theorem dX5_withoutLowest_16 : decode cX5_withoutLowest 16 = .ok (.lstore_n 3, 1) := by decide +kernel
theorem dX5_withoutLowest_17 : decode cX5_withoutLowest 17 = .ok (.iinc 5 1, 3) := by decide +kernel
theorem dX5_withoutLowest_20 : decode cX5_withoutLowest 20 = .ok (.goto (-15), 3) := by decide +kernel
theorem dX5_withoutLowest_23 : decode cX5_withoutLowest 23 = .ok (.lload_n 3, 1) := by decide +kernel
theorem dX5_withoutLowest_24 : decode cX5_withoutLowest 24 = .ok (.lreturn, 1) := by decide +kernel
theorem dX5_succeeds_0 : decode cX5_succeeds 0 = .ok (.iload_n 1, 1) := by decide +kernel
theorem dX5_succeeds_1 : decode cX5_succeeds 1 = .ok (.bipush 100, 2) := by decide +kernel
theorem dX5_succeeds_3 : decode cX5_succeeds 3 = .ok (.idiv, 1) := by decide +kernel
theorem dX5_succeeds_4 : decode cX5_succeeds 4 = .ok (.bipush 10, 2) := by decide +kernel
theorem dX5_succeeds_6 : decode cX5_succeeds 6 = .ok (.irem, 1) := by decide +kernel
theorem dX5_succeeds_7 : decode cX5_succeeds 7 = .ok (.istore_n 2, 1) := by decide +kernel
theorem dX5_succeeds_8 : decode cX5_succeeds 8 = .ok (.iload_n 1, 1) := by decide +kernel
theorem dX5_succeeds_9 : decode cX5_succeeds 9 = .ok (.bipush 10, 2) := by decide +kernel
theorem dX5_succeeds_11 : decode cX5_succeeds 11 = .ok (.idiv, 1) := by decide +kernel
theorem dX5_succeeds_12 : decode cX5_succeeds 12 = .ok (.bipush 10, 2) := by decide +kernel
theorem dX5_succeeds_14 : decode cX5_succeeds 14 = .ok (.irem, 1) := by decide +kernel
theorem dX5_succeeds_15 : decode cX5_succeeds 15 = .ok (.istore_n 3, 1) := by decide +kernel
theorem dX5_succeeds_16 : decode cX5_succeeds 16 = .ok (.iload_n 1, 1) := by decide +kernel
theorem dX5_succeeds_17 : decode cX5_succeeds 17 = .ok (.bipush 10, 2) := by decide +kernel
theorem dX5_succeeds_19 : decode cX5_succeeds 19 = .ok (.irem, 1) := by decide +kernel
theorem dX5_succeeds_20 : decode cX5_succeeds 20 = .ok (.istore 4, 2) := by decide +kernel
theorem dX5_succeeds_22 : decode cX5_succeeds 22 = .ok (.iload_n 1, 1) := by decide +kernel
theorem dX5_succeeds_23 : decode cX5_succeeds 23 = .ok (.sipush 1000, 3) := by decide +kernel
theorem dX5_succeeds_26 : decode cX5_succeeds 26 = .ok (.idiv, 1) := by decide +kernel
theorem dX5_succeeds_27 : decode cX5_succeeds 27 = .ok (.tableswitch 214 1 8 #[45, 65, 85, 106, 135, 153, 171, 194], 45) := by decide +kernel
theorem dX5_succeeds_72 : decode cX5_succeeds 72 = .ok (.iload 4, 2) := by decide +kernel
theorem dX5_succeeds_74 : decode cX5_succeeds 74 = .ok (.ifCond .ne 16, 3) := by decide +kernel
theorem dX5_succeeds_77 : decode cX5_succeeds 77 = .ok (.aload_n 0, 1) := by decide +kernel
theorem dX5_succeeds_78 : decode cX5_succeeds 78 = .ok (.iload_n 2, 1) := by decide +kernel
theorem dX5_succeeds_79 : decode cX5_succeeds 79 = .ok (.iload_n 3, 1) := by decide +kernel
theorem dX5_succeeds_80 : decode cX5_succeeds 80 = .ok (.invokestatic 21, 3) := by decide +kernel
theorem dX5_succeeds_83 : decode cX5_succeeds 83 = .ok (.ifCond .eq 7, 3) := by decide +kernel
theorem dX5_succeeds_86 : decode cX5_succeeds 86 = .ok (.iconst 1, 1) := by decide +kernel
theorem dX5_succeeds_87 : decode cX5_succeeds 87 = .ok (.goto 4, 3) := by decide +kernel
theorem dX5_succeeds_90 : decode cX5_succeeds 90 = .ok (.iconst 0, 1) := by decide +kernel
theorem dX5_succeeds_91 : decode cX5_succeeds 91 = .ok (.ireturn, 1) := by decide +kernel
theorem dX5_succeeds_92 : decode cX5_succeeds 92 = .ok (.iload 4, 2) := by decide +kernel
theorem dX5_succeeds_94 : decode cX5_succeeds 94 = .ok (.ifCond .ne 16, 3) := by decide +kernel
theorem dX5_succeeds_97 : decode cX5_succeeds 97 = .ok (.aload_n 0, 1) := by decide +kernel
theorem dX5_succeeds_98 : decode cX5_succeeds 98 = .ok (.iload_n 2, 1) := by decide +kernel
theorem dX5_succeeds_99 : decode cX5_succeeds 99 = .ok (.iload_n 3, 1) := by decide +kernel
theorem dX5_succeeds_100 : decode cX5_succeeds 100 = .ok (.invokestatic 25, 3) := by decide +kernel
theorem dX5_succeeds_103 : decode cX5_succeeds 103 = .ok (.ifCond .eq 7, 3) := by decide +kernel
theorem dX5_succeeds_106 : decode cX5_succeeds 106 = .ok (.iconst 1, 1) := by decide +kernel
theorem dX5_succeeds_107 : decode cX5_succeeds 107 = .ok (.goto 4, 3) := by decide +kernel
theorem dX5_succeeds_110 : decode cX5_succeeds 110 = .ok (.iconst 0, 1) := by decide +kernel
theorem dX5_succeeds_111 : decode cX5_succeeds 111 = .ok (.ireturn, 1) := by decide +kernel
theorem dX5_succeeds_112 : decode cX5_succeeds 112 = .ok (.iload_n 2, 1) := by decide +kernel
theorem dX5_succeeds_113 : decode cX5_succeeds 113 = .ok (.ifCond .ne 18, 3) := by decide +kernel
theorem dX5_succeeds_116 : decode cX5_succeeds 116 = .ok (.aload_n 0, 1) := by decide +kernel
theorem dX5_succeeds_117 : decode cX5_succeeds 117 = .ok (.iload_n 1, 1) := by decide +kernel
theorem dX5_succeeds_118 : decode cX5_succeeds 118 = .ok (.bipush 100, 2) := by decide +kernel
theorem dX5_succeeds_120 : decode cX5_succeeds 120 = .ok (.irem, 1) := by decide +kernel
theorem dX5_succeeds_121 : decode cX5_succeeds 121 = .ok (.invokestatic 28, 3) := by decide +kernel
theorem dX5_succeeds_124 : decode cX5_succeeds 124 = .ok (.ifCond .eq 7, 3) := by decide +kernel
theorem dX5_succeeds_127 : decode cX5_succeeds 127 = .ok (.iconst 1, 1) := by decide +kernel
theorem dX5_succeeds_128 : decode cX5_succeeds 128 = .ok (.goto 4, 3) := by decide +kernel
theorem dX5_succeeds_131 : decode cX5_succeeds 131 = .ok (.iconst 0, 1) := by decide +kernel
theorem dX5_succeeds_132 : decode cX5_succeeds 132 = .ok (.ireturn, 1) := by decide +kernel
theorem dX5_succeeds_133 : decode cX5_succeeds 133 = .ok (.aload_n 0, 1) := by decide +kernel
theorem dX5_succeeds_134 : decode cX5_succeeds 134 = .ok (.getfield 31, 3) := by decide +kernel
theorem dX5_succeeds_137 : decode cX5_succeeds 137 = .ok (.iload_n 2, 1) := by decide +kernel
theorem dX5_succeeds_138 : decode cX5_succeeds 138 = .ok (.invokevirtual 37, 3) := by decide +kernel
theorem dX5_succeeds_141 : decode cX5_succeeds 141 = .ok (.ifCond .eq 19, 3) := by decide +kernel
theorem dX5_succeeds_144 : decode cX5_succeeds 144 = .ok (.aload_n 0, 1) := by decide +kernel
theorem dX5_succeeds_145 : decode cX5_succeeds 145 = .ok (.iload_n 2, 1) := by decide +kernel
theorem dX5_succeeds_146 : decode cX5_succeeds 146 = .ok (.invokestatic 43, 3) := by decide +kernel
theorem dX5_succeeds_149 : decode cX5_succeeds 149 = .ok (.iload_n 1, 1) := by decide +kernel
theorem dX5_succeeds_150 : decode cX5_succeeds 150 = .ok (.bipush 100, 2) := by decide +kernel
theorem dX5_succeeds_152 : decode cX5_succeeds 152 = .ok (.irem, 1) := by decide +kernel
theorem dX5_succeeds_153 : decode cX5_succeeds 153 = .ok (.if_icmp .ne 7, 3) := by decide +kernel
theorem dX5_succeeds_156 : decode cX5_succeeds 156 = .ok (.iconst 1, 1) := by decide +kernel
theorem dX5_succeeds_157 : decode cX5_succeeds 157 = .ok (.goto 4, 3) := by decide +kernel
theorem dX5_succeeds_160 : decode cX5_succeeds 160 = .ok (.iconst 0, 1) := by decide +kernel
theorem dX5_succeeds_161 : decode cX5_succeeds 161 = .ok (.ireturn, 1) := by decide +kernel
theorem dX5_succeeds_162 : decode cX5_succeeds 162 = .ok (.aload_n 0, 1) := by decide +kernel
theorem dX5_succeeds_163 : decode cX5_succeeds 163 = .ok (.invokevirtual 49, 3) := by decide +kernel
theorem dX5_succeeds_166 : decode cX5_succeeds 166 = .ok (.iload_n 1, 1) := by decide +kernel
theorem dX5_succeeds_167 : decode cX5_succeeds 167 = .ok (.sipush 1000, 3) := by decide +kernel
theorem dX5_succeeds_170 : decode cX5_succeeds 170 = .ok (.irem, 1) := by decide +kernel
theorem dX5_succeeds_171 : decode cX5_succeeds 171 = .ok (.if_icmp .ne 7, 3) := by decide +kernel
theorem dX5_succeeds_174 : decode cX5_succeeds 174 = .ok (.iconst 1, 1) := by decide +kernel
theorem dX5_succeeds_175 : decode cX5_succeeds 175 = .ok (.goto 4, 3) := by decide +kernel
theorem dX5_succeeds_178 : decode cX5_succeeds 178 = .ok (.iconst 0, 1) := by decide +kernel
theorem dX5_succeeds_179 : decode cX5_succeeds 179 = .ok (.ireturn, 1) := by decide +kernel
theorem dX5_succeeds_180 : decode cX5_succeeds 180 = .ok (.aload_n 0, 1) := by decide +kernel
theorem dX5_succeeds_181 : decode cX5_succeeds 181 = .ok (.invokestatic 53, 3) := by decide +kernel
theorem dX5_succeeds_184 : decode cX5_succeeds 184 = .ok (.iload_n 1, 1) := by decide +kernel
theorem dX5_succeeds_185 : decode cX5_succeeds 185 = .ok (.sipush 1000, 3) := by decide +kernel
theorem dX5_succeeds_188 : decode cX5_succeeds 188 = .ok (.irem, 1) := by decide +kernel
theorem dX5_succeeds_189 : decode cX5_succeeds 189 = .ok (.if_icmp .ne 7, 3) := by decide +kernel
theorem dX5_succeeds_192 : decode cX5_succeeds 192 = .ok (.iconst 1, 1) := by decide +kernel
theorem dX5_succeeds_193 : decode cX5_succeeds 193 = .ok (.goto 4, 3) := by decide +kernel
theorem dX5_succeeds_196 : decode cX5_succeeds 196 = .ok (.iconst 0, 1) := by decide +kernel
theorem dX5_succeeds_197 : decode cX5_succeeds 197 = .ok (.ireturn, 1) := by decide +kernel
theorem dX5_succeeds_198 : decode cX5_succeeds 198 = .ok (.iload_n 3, 1) := by decide +kernel
theorem dX5_succeeds_199 : decode cX5_succeeds 199 = .ok (.ifCond .ne 20, 3) := by decide +kernel
theorem dX5_succeeds_202 : decode cX5_succeeds 202 = .ok (.iload 4, 2) := by decide +kernel
theorem dX5_succeeds_204 : decode cX5_succeeds 204 = .ok (.ifCond .ne 15, 3) := by decide +kernel
theorem dX5_succeeds_207 : decode cX5_succeeds 207 = .ok (.aload_n 0, 1) := by decide +kernel
theorem dX5_succeeds_208 : decode cX5_succeeds 208 = .ok (.iload_n 2, 1) := by decide +kernel
theorem dX5_succeeds_209 : decode cX5_succeeds 209 = .ok (.invokestatic 57, 3) := by decide +kernel
theorem dX5_succeeds_212 : decode cX5_succeeds 212 = .ok (.ifCond .eq 7, 3) := by decide +kernel
theorem dX5_succeeds_215 : decode cX5_succeeds 215 = .ok (.iconst 1, 1) := by decide +kernel
theorem dX5_succeeds_216 : decode cX5_succeeds 216 = .ok (.goto 4, 3) := by decide +kernel
theorem dX5_succeeds_219 : decode cX5_succeeds 219 = .ok (.iconst 0, 1) := by decide +kernel
theorem dX5_succeeds_220 : decode cX5_succeeds 220 = .ok (.ireturn, 1) := by decide +kernel
theorem dX5_succeeds_221 : decode cX5_succeeds 221 = .ok (.iload 4, 2) := by decide +kernel
theorem dX5_succeeds_223 : decode cX5_succeeds 223 = .ok (.ifCond .ne 16, 3) := by decide +kernel
theorem dX5_succeeds_226 : decode cX5_succeeds 226 = .ok (.aload_n 0, 1) := by decide +kernel
theorem dX5_succeeds_227 : decode cX5_succeeds 227 = .ok (.iload_n 2, 1) := by decide +kernel
theorem dX5_succeeds_228 : decode cX5_succeeds 228 = .ok (.iload_n 3, 1) := by decide +kernel
theorem dX5_succeeds_229 : decode cX5_succeeds 229 = .ok (.invokestatic 60, 3) := by decide +kernel
theorem dX5_succeeds_232 : decode cX5_succeeds 232 = .ok (.ifCond .eq 7, 3) := by decide +kernel
theorem dX5_succeeds_235 : decode cX5_succeeds 235 = .ok (.iconst 1, 1) := by decide +kernel
theorem dX5_succeeds_236 : decode cX5_succeeds 236 = .ok (.goto 4, 3) := by decide +kernel
theorem dX5_succeeds_239 : decode cX5_succeeds 239 = .ok (.iconst 0, 1) := by decide +kernel
theorem dX5_succeeds_240 : decode cX5_succeeds 240 = .ok (.ireturn, 1) := by decide +kernel
theorem dX5_succeeds_241 : decode cX5_succeeds 241 = .ok (.iconst 0, 1) := by decide +kernel
theorem dX5_succeeds_242 : decode cX5_succeeds 242 = .ok (.ireturn, 1) := by decide +kernel
theorem dX5_exchanged_0 : decode cX5_exchanged 0 = .ok (.aload_n 0, 1) := by decide +kernel
theorem dX5_exchanged_1 : decode cX5_exchanged 1 = .ok (.iload_n 1, 1) := by decide +kernel
theorem dX5_exchanged_2 : decode cX5_exchanged 2 = .ok (.iload_n 2, 1) := by decide +kernel
theorem dX5_exchanged_3 : decode cX5_exchanged 3 = .ok (.invokevirtual 63, 3) := by decide +kernel
theorem dX5_exchanged_6 : decode cX5_exchanged 6 = .ok (.ifCond .eq 5, 3) := by decide +kernel
theorem dX5_exchanged_9 : decode cX5_exchanged 9 = .ok (.iconst 0, 1) := by decide +kernel
theorem dX5_exchanged_10 : decode cX5_exchanged 10 = .ok (.ireturn, 1) := by decide +kernel
theorem dX5_exchanged_11 : decode cX5_exchanged 11 = .ok (.aload_n 0, 1) := by decide +kernel
theorem dX5_exchanged_12 : decode cX5_exchanged 12 = .ok (.iload_n 1, 1) := by decide +kernel
theorem dX5_exchanged_13 : decode cX5_exchanged 13 = .ok (.iload_n 2, 1) := by decide +kernel
theorem dX5_exchanged_14 : decode cX5_exchanged 14 = .ok (.invokevirtual 67, 3) := by decide +kernel
theorem dX5_exchanged_17 : decode cX5_exchanged 17 = .ok (.iconst 1, 1) := by decide +kernel
theorem dX5_exchanged_18 : decode cX5_exchanged 18 = .ok (.ireturn, 1) := by decide +kernel
theorem dX5_turned_0 : decode cX5_turned 0 = .ok (.aload_n 0, 1) := by decide +kernel
theorem dX5_turned_1 : decode cX5_turned 1 = .ok (.iload_n 1, 1) := by decide +kernel
theorem dX5_turned_2 : decode cX5_turned 2 = .ok (.iload_n 2, 1) := by decide +kernel
theorem dX5_turned_3 : decode cX5_turned 3 = .ok (.invokevirtual 71, 3) := by decide +kernel
theorem dX5_turned_6 : decode cX5_turned 6 = .ok (.ifCond .eq 5, 3) := by decide +kernel
theorem dX5_turned_9 : decode cX5_turned 9 = .ok (.iconst 0, 1) := by decide +kernel
theorem dX5_turned_10 : decode cX5_turned 10 = .ok (.ireturn, 1) := by decide +kernel
theorem dX5_turned_11 : decode cX5_turned 11 = .ok (.aload_n 0, 1) := by decide +kernel
theorem dX5_turned_12 : decode cX5_turned 12 = .ok (.iload_n 1, 1) := by decide +kernel
theorem dX5_turned_13 : decode cX5_turned 13 = .ok (.iload_n 2, 1) := by decide +kernel
theorem dX5_turned_14 : decode cX5_turned 14 = .ok (.invokevirtual 74, 3) := by decide +kernel
theorem dX5_turned_17 : decode cX5_turned 17 = .ok (.iconst 1, 1) := by decide +kernel
theorem dX5_turned_18 : decode cX5_turned 18 = .ok (.ireturn, 1) := by decide +kernel
theorem dX5_divided_0 : decode cX5_divided 0 = .ok (.iload_n 1, 1) := by decide +kernel
theorem dX5_divided_1 : decode cX5_divided 1 = .ok (.invokestatic 77, 3) := by decide +kernel
theorem dX5_divided_4 : decode cX5_divided 4 = .ok (.ifCond .eq 5, 3) := by decide +kernel
theorem dX5_divided_7 : decode cX5_divided 7 = .ok (.iconst 0, 1) := by decide +kernel
theorem dX5_divided_8 : decode cX5_divided 8 = .ok (.ireturn, 1) := by decide +kernel
theorem dX5_divided_9 : decode cX5_divided 9 = .ok (.aload_n 0, 1) := by decide +kernel
theorem dX5_divided_10 : decode cX5_divided 10 = .ok (.iload_n 1, 1) := by decide +kernel
theorem dX5_divided_11 : decode cX5_divided 11 = .ok (.invokevirtual 81, 3) := by decide +kernel
theorem dX5_divided_14 : decode cX5_divided 14 = .ok (.iconst 1, 1) := by decide +kernel
theorem dX5_divided_15 : decode cX5_divided 15 = .ok (.ireturn, 1) := by decide +kernel
theorem dX5_wentAround_0 : decode cX5_wentAround 0 = .ok (.aload_n 0, 1) := by decide +kernel
theorem dX5_wentAround_1 : decode cX5_wentAround 1 = .ok (.iload_n 1, 1) := by decide +kernel
theorem dX5_wentAround_2 : decode cX5_wentAround 2 = .ok (.invokevirtual 85, 3) := by decide +kernel
theorem dX5_wentAround_5 : decode cX5_wentAround 5 = .ok (.ifCond .eq 5, 3) := by decide +kernel
theorem dX5_wentAround_8 : decode cX5_wentAround 8 = .ok (.iconst 0, 1) := by decide +kernel
theorem dX5_wentAround_9 : decode cX5_wentAround 9 = .ok (.ireturn, 1) := by decide +kernel
theorem dX5_wentAround_10 : decode cX5_wentAround 10 = .ok (.aload_n 0, 1) := by decide +kernel
theorem dX5_wentAround_11 : decode cX5_wentAround 11 = .ok (.iload_n 1, 1) := by decide +kernel
theorem dX5_wentAround_12 : decode cX5_wentAround 12 = .ok (.invokevirtual 88, 3) := by decide +kernel
theorem dX5_wentAround_15 : decode cX5_wentAround 15 = .ok (.pop, 1) := by decide +kernel
theorem dX5_wentAround_16 : decode cX5_wentAround 16 = .ok (.iconst 1, 1) := by decide +kernel
theorem dX5_wentAround_17 : decode cX5_wentAround 17 = .ok (.ireturn, 1) := by decide +kernel
theorem dX5_isFollowedBy_0 : decode cX5_isFollowedBy 0 = .ok (.aload_n 0, 1) := by decide +kernel
theorem dX5_isFollowedBy_1 : decode cX5_isFollowedBy 1 = .ok (.getfield 31, 3) := by decide +kernel
theorem dX5_isFollowedBy_4 : decode cX5_isFollowedBy 4 = .ok (.iload_n 1, 1) := by decide +kernel
theorem dX5_isFollowedBy_5 : decode cX5_isFollowedBy 5 = .ok (.invokevirtual 37, 3) := by decide +kernel
theorem dX5_isFollowedBy_8 : decode cX5_isFollowedBy 8 = .ok (.ifCond .eq 27, 3) := by decide +kernel
theorem dX5_isFollowedBy_11 : decode cX5_isFollowedBy 11 = .ok (.aload_n 0, 1) := by decide +kernel
theorem dX5_isFollowedBy_12 : decode cX5_isFollowedBy 12 = .ok (.getfield 31, 3) := by decide +kernel
theorem dX5_isFollowedBy_15 : decode cX5_isFollowedBy 15 = .ok (.iload_n 2, 1) := by decide +kernel
theorem dX5_isFollowedBy_16 : decode cX5_isFollowedBy 16 = .ok (.invokevirtual 37, 3) := by decide +kernel
theorem dX5_isFollowedBy_19 : decode cX5_isFollowedBy 19 = .ok (.ifCond .eq 16, 3) := by decide +kernel
theorem dX5_isFollowedBy_22 : decode cX5_isFollowedBy 22 = .ok (.aload_n 0, 1) := by decide +kernel
theorem dX5_isFollowedBy_23 : decode cX5_isFollowedBy 23 = .ok (.iload_n 1, 1) := by decide +kernel
theorem dX5_isFollowedBy_24 : decode cX5_isFollowedBy 24 = .ok (.invokevirtual 91, 3) := by decide +kernel
theorem dX5_isFollowedBy_27 : decode cX5_isFollowedBy 27 = .ok (.iload_n 2, 1) := by decide +kernel
theorem dX5_isFollowedBy_28 : decode cX5_isFollowedBy 28 = .ok (.if_icmp .ne 7, 3) := by decide +kernel
theorem dX5_isFollowedBy_31 : decode cX5_isFollowedBy 31 = .ok (.iconst 1, 1) := by decide +kernel
theorem dX5_isFollowedBy_32 : decode cX5_isFollowedBy 32 = .ok (.goto 4, 3) := by decide +kernel
theorem dX5_isFollowedBy_35 : decode cX5_isFollowedBy 35 = .ok (.iconst 0, 1) := by decide +kernel
theorem dX5_isFollowedBy_36 : decode cX5_isFollowedBy 36 = .ok (.ireturn, 1) := by decide +kernel
theorem dX6_init_0 : decode cX6_init 0 = .ok (.aload_n 0, 1) := by decide +kernel
theorem dX6_init_1 : decode cX6_init 1 = .ok (.invokespecial 3, 3) := by decide +kernel
theorem dX6_init_4 : decode cX6_init 4 = .ok (.aload_n 0, 1) := by decide +kernel
theorem dX6_init_5 : decode cX6_init 5 = .ok (.new 9, 3) := by decide +kernel
theorem dX6_init_8 : decode cX6_init 8 = .ok (.dup, 1) := by decide +kernel
theorem dX6_init_9 : decode cX6_init 9 = .ok (.invokespecial 11, 3) := by decide +kernel
theorem dX6_init_12 : decode cX6_init 12 = .ok (.putfield 12, 3) := by decide +kernel
theorem dX6_init_15 : decode cX6_init 15 = .ok (.aload_n 0, 1) := by decide +kernel
theorem dX6_init_16 : decode cX6_init 16 = .ok (.new 18, 3) := by decide +kernel
theorem dX6_init_19 : decode cX6_init 19 = .ok (.dup, 1) := by decide +kernel
theorem dX6_init_20 : decode cX6_init 20 = .ok (.aload_n 0, 1) := by decide +kernel
theorem dX6_init_21 : decode cX6_init 21 = .ok (.getfield 12, 3) := by decide +kernel
theorem dX6_init_24 : decode cX6_init 24 = .ok (.invokespecial 20, 3) := by decide +kernel
theorem dX6_init_27 : decode cX6_init 27 = .ok (.putfield 23, 3) := by decide +kernel
theorem dX6_init_30 : decode cX6_init 30 = .ok (.aload_n 0, 1) := by decide +kernel
theorem dX6_init_31 : decode cX6_init 31 = .ok (.bipush 99, 2) := by decide +kernel
theorem dX6_init_33 : decode cX6_init 33 = .ok (.newarray .int, 2) := by decide +kernel
theorem dX6_init_35 : decode cX6_init 35 = .ok (.putfield 27, 3) := by decide +kernel
theorem dX6_init_38 : decode cX6_init 38 = .ok (.aload_n 0, 1) := by decide +kernel
theorem dX6_init_39 : decode cX6_init 39 = .ok (.iconst 0, 1) := by decide +kernel
theorem dX6_init_40 : decode cX6_init 40 = .ok (.putfield 31, 3) := by decide +kernel
theorem dX6_init_43 : decode cX6_init 43 = .ok (.aload_n 0, 1) := by decide +kernel
theorem dX6_init_44 : decode cX6_init 44 = .ok (.iconst 0, 1) := by decide +kernel
theorem dX6_init_45 : decode cX6_init 45 = .ok (.putfield 35, 3) := by decide +kernel
theorem dX6_init_48 : decode cX6_init 48 = .ok (.return_, 1) := by decide +kernel
theorem dX6_addSign_0 : decode cX6_addSign 0 = .ok (.iload_n 1, 1) := by decide +kernel
theorem dX6_addSign_1 : decode cX6_addSign 1 = .ok (.ifCond .lt 10, 3) := by decide +kernel
theorem dX6_addSign_4 : decode cX6_addSign 4 = .ok (.iload_n 1, 1) := by decide +kernel
theorem dX6_addSign_5 : decode cX6_addSign 5 = .ok (.sipush 255, 3) := by decide +kernel
theorem dX6_addSign_8 : decode cX6_addSign 8 = .ok (.if_icmp .le 6, 3) := by decide +kernel
theorem dX6_addSign_11 : decode cX6_addSign 11 = .ok (.bipush (-2), 2) := by decide +kernel
theorem dX6_addSign_13 : decode cX6_addSign 13 = .ok (.ireturn, 1) := by decide +kernel
theorem dX6_addSign_14 : decode cX6_addSign 14 = .ok (.aload_n 0, 1) := by decide +kernel
theorem dX6_addSign_15 : decode cX6_addSign 15 = .ok (.getfield 31, 3) := by decide +kernel
theorem dX6_addSign_18 : decode cX6_addSign 18 = .ok (.bipush 99, 2) := by decide +kernel
theorem dX6_addSign_20 : decode cX6_addSign 20 = .ok (.if_icmp .lt 6, 3) := by decide +kernel
theorem dX6_addSign_23 : decode cX6_addSign 23 = .ok (.bipush (-4), 2) := by decide +kernel
theorem dX6_addSign_25 : decode cX6_addSign 25 = .ok (.ireturn, 1) := by decide +kernel
theorem dX6_addSign_26 : decode cX6_addSign 26 = .ok (.aload_n 0, 1) := by decide +kernel
theorem dX6_addSign_27 : decode cX6_addSign 27 = .ok (.getfield 27, 3) := by decide +kernel
theorem dX6_addSign_30 : decode cX6_addSign 30 = .ok (.aload_n 0, 1) := by decide +kernel
theorem dX6_addSign_31 : decode cX6_addSign 31 = .ok (.getfield 31, 3) := by decide +kernel
theorem dX6_addSign_34 : decode cX6_addSign 34 = .ok (.iload_n 1, 1) := by decide +kernel
theorem dX6_addSign_35 : decode cX6_addSign 35 = .ok (.iastore, 1) := by decide +kernel
theorem dX6_addSign_36 : decode cX6_addSign 36 = .ok (.aload_n 0, 1) := by decide +kernel
theorem dX6_addSign_37 : decode cX6_addSign 37 = .ok (.dup, 1) := by decide +kernel
theorem dX6_addSign_38 : decode cX6_addSign 38 = .ok (.getfield 31, 3) := by decide +kernel
theorem dX6_addSign_41 : decode cX6_addSign 41 = .ok (.iconst 1, 1) := by decide +kernel
theorem dX6_addSign_42 : decode cX6_addSign 42 = .ok (.iadd, 1) := by decide +kernel
theorem dX6_addSign_43 : decode cX6_addSign 43 = .ok (.putfield 31, 3) := by decide +kernel
theorem dX6_addSign_46 : decode cX6_addSign 46 = .ok (.aload_n 0, 1) := by decide +kernel
theorem dX6_addSign_47 : decode cX6_addSign 47 = .ok (.getfield 31, 3) := by decide +kernel
theorem dX6_addSign_50 : decode cX6_addSign 50 = .ok (.ireturn, 1) := by decide +kernel
theorem dX6_dropSigns_0 : decode cX6_dropSigns 0 = .ok (.aload_n 0, 1) := by decide +kernel
theorem dX6_dropSigns_1 : decode cX6_dropSigns 1 = .ok (.getfield 31, 3) := by decide +kernel
theorem dX6_dropSigns_4 : decode cX6_dropSigns 4 = .ok (.istore_n 1, 1) := by decide +kernel
theorem dX6_dropSigns_5 : decode cX6_dropSigns 5 = .ok (.aload_n 0, 1) := by decide +kernel
theorem dX6_dropSigns_6 : decode cX6_dropSigns 6 = .ok (.iconst 0, 1) := by decide +kernel
theorem dX6_dropSigns_7 : decode cX6_dropSigns 7 = .ok (.putfield 31, 3) := by decide +kernel
theorem dX6_dropSigns_10 : decode cX6_dropSigns 10 = .ok (.iload_n 1, 1) := by decide +kernel
theorem dX6_dropSigns_11 : decode cX6_dropSigns 11 = .ok (.ireturn, 1) := by decide +kernel
theorem dX6_read_0 : decode cX6_read 0 = .ok (.aload_n 0, 1) := by decide +kernel
theorem dX6_read_1 : decode cX6_read 1 = .ok (.iconst 0, 1) := by decide +kernel
theorem dX6_read_2 : decode cX6_read 2 = .ok (.putfield 35, 3) := by decide +kernel
theorem dX6_read_5 : decode cX6_read 5 = .ok (.aload_n 0, 1) := by decide +kernel
theorem dX6_read_6 : decode cX6_read 6 = .ok (.invokevirtual 38, 3) := by decide +kernel
theorem dX6_read_9 : decode cX6_read 9 = .ok (.ifCond .eq 25, 3) := by decide +kernel
theorem dX6_read_12 : decode cX6_read 12 = .ok (.aload_n 0, 1) := by decide +kernel
theorem dX6_read_13 : decode cX6_read 13 = .ok (.invokevirtual 42, 3) := by decide +kernel
theorem dX6_read_16 : decode cX6_read 16 = .ok (.ifCond .eq 18, 3) := by decide +kernel
theorem dX6_read_19 : decode cX6_read 19 = .ok (.aload_n 0, 1) := by decide +kernel
theorem dX6_read_20 : decode cX6_read 20 = .ok (.getfield 35, 3) := by decide +kernel
theorem dX6_read_23 : decode cX6_read 23 = .ok (.aload_n 0, 1) := by decide +kernel
theorem dX6_read_24 : decode cX6_read 24 = .ok (.getfield 31, 3) := by decide +kernel
theorem dX6_read_27 : decode cX6_read 27 = .ok (.if_icmp .ne 7, 3) := by decide +kernel
theorem dX6_read_30 : decode cX6_read 30 = .ok (.iconst 1, 1) := by decide +kernel
theorem dX6_read_31 : decode cX6_read 31 = .ok (.goto 4, 3) := by decide +kernel
theorem dX6_read_34 : decode cX6_read 34 = .ok (.iconst 0, 1) := by decide +kernel
theorem dX6_read_35 : decode cX6_read 35 = .ok (.istore_n 1, 1) := by decide +kernel
theorem dX6_read_36 : decode cX6_read 36 = .ok (.iload_n 1, 1) := by decide +kernel
theorem dX6_read_37 : decode cX6_read 37 = .ok (.ifCond .eq 8, 3) := by decide +kernel
theorem dX6_read_40 : decode cX6_read 40 = .ok (.bipush (-9), 2) := by decide +kernel
theorem dX6_read_42 : decode cX6_read 42 = .ok (.goto 7, 3) := by decide +kernel
theorem dX6_read_45 : decode cX6_read 45 = .ok (.aload_n 0, 1) := by decide +kernel
theorem dX6_read_46 : decode cX6_read 46 = .ok (.getfield 35, 3) := by decide +kernel
theorem dX6_read_49 : decode cX6_read 49 = .ok (.ireturn, 1) := by decide +kernel
theorem dX6_readHead_0 : decode cX6_readHead 0 = .ok (.aload_n 0, 1) := by decide +kernel
theorem dX6_readHead_1 : decode cX6_readHead 1 = .ok (.getfield 35, 3) := by decide +kernel
theorem dX6_readHead_4 : decode cX6_readHead 4 = .ok (.aload_n 0, 1) := by decide +kernel
theorem dX6_readHead_5 : decode cX6_readHead 5 = .ok (.getfield 31, 3) := by decide +kernel
theorem dX6_readHead_8 : decode cX6_readHead 8 = .ok (.if_icmp .ge 17, 3) := by decide +kernel
theorem dX6_readHead_11 : decode cX6_readHead 11 = .ok (.aload_n 0, 1) := by decide +kernel
theorem dX6_readHead_12 : decode cX6_readHead 12 = .ok (.getfield 27, 3) := by decide +kernel
theorem dX6_readHead_15 : decode cX6_readHead 15 = .ok (.aload_n 0, 1) := by decide +kernel
theorem dX6_readHead_16 : decode cX6_readHead 16 = .ok (.getfield 35, 3) := by decide +kernel
theorem dX6_readHead_19 : decode cX6_readHead 19 = .ok (.iaload, 1) := by decide +kernel
theorem dX6_readHead_20 : decode cX6_readHead 20 = .ok (.bipush 66, 2) := by decide +kernel
theorem dX6_readHead_22 : decode cX6_readHead 22 = .ok (.if_icmp .eq 5, 3) := by decide +kernel
theorem dX6_readHead_25 : decode cX6_readHead 25 = .ok (.iconst 0, 1) := by decide +kernel
theorem dX6_readHead_26 : decode cX6_readHead 26 = .ok (.ireturn, 1) := by decide +kernel
theorem dX6_readHead_27 : decode cX6_readHead 27 = .ok (.aload_n 0, 1) := by decide +kernel
theorem dX6_readHead_28 : decode cX6_readHead 28 = .ok (.dup, 1) := by decide +kernel
theorem dX6_readHead_29 : decode cX6_readHead 29 = .ok (.getfield 35, 3) := by decide +kernel
theorem dX6_readHead_32 : decode cX6_readHead 32 = .ok (.iconst 1, 1) := by decide +kernel
theorem dX6_readHead_33 : decode cX6_readHead 33 = .ok (.iadd, 1) := by decide +kernel
theorem dX6_readHead_34 : decode cX6_readHead 34 = .ok (.putfield 35, 3) := by decide +kernel
theorem dX6_readHead_37 : decode cX6_readHead 37 = .ok (.aload_n 0, 1) := by decide +kernel
theorem dX6_readHead_38 : decode cX6_readHead 38 = .ok (.iconst 1, 1) := by decide +kernel
theorem dX6_readHead_39 : decode cX6_readHead 39 = .ok (.bipush 8, 2) := by decide +kernel
theorem dX6_readHead_41 : decode cX6_readHead 41 = .ok (.invokevirtual 45, 3) := by decide +kernel
theorem dX6_readHead_44 : decode cX6_readHead 44 = .ok (.istore_n 1, 1) := by decide +kernel
theorem dX6_readHead_45 : decode cX6_readHead 45 = .ok (.iload_n 1, 1) := by decide +kernel
theorem dX6_readHead_46 : decode cX6_readHead 46 = .ok (.ifCond .ge 5, 3) := by decide +kernel
theorem dX6_readHead_49 : decode cX6_readHead 49 = .ok (.iconst 0, 1) := by decide +kernel
theorem dX6_readHead_50 : decode cX6_readHead 50 = .ok (.ireturn, 1) := by decide +kernel
theorem dX6_readHead_51 : decode cX6_readHead 51 = .ok (.aload_n 0, 1) := by decide +kernel
theorem dX6_readHead_52 : decode cX6_readHead 52 = .ok (.getfield 12, 3) := by decide +kernel
theorem dX6_readHead_55 : decode cX6_readHead 55 = .ok (.iload_n 1, 1) := by decide +kernel
theorem dX6_readHead_56 : decode cX6_readHead 56 = .ok (.putfield 49, 3) := by decide +kernel
theorem dX6_readHead_59 : decode cX6_readHead 59 = .ok (.aload_n 0, 1) := by decide +kernel
theorem dX6_readHead_60 : decode cX6_readHead 60 = .ok (.invokevirtual 52, 3) := by decide +kernel
theorem dX6_readHead_63 : decode cX6_readHead 63 = .ok (.istore_n 2, 1) := by decide +kernel
theorem dX6_readHead_64 : decode cX6_readHead 64 = .ok (.aload_n 0, 1) := by decide +kernel
theorem dX6_readHead_65 : decode cX6_readHead 65 = .ok (.getfield 12, 3) := by decide +kernel
theorem dX6_readHead_68 : decode cX6_readHead 68 = .ok (.iload_n 2, 1) := by decide +kernel
theorem dX6_readHead_69 : decode cX6_readHead 69 = .ok (.putfield 56, 3) := by decide +kernel
theorem dX6_readHead_72 : decode cX6_readHead 72 = .ok (.aload_n 0, 1) := by decide +kernel
theorem dX6_readHead_73 : decode cX6_readHead 73 = .ok (.getfield 23, 3) := by decide +kernel
theorem dX6_readHead_76 : decode cX6_readHead 76 = .ok (.invokevirtual 59, 3) := by decide +kernel
theorem dX6_readHead_79 : decode cX6_readHead 79 = .ok (.iload_n 2, 1) := by decide +kernel
theorem dX6_readHead_80 : decode cX6_readHead 80 = .ok (.ifCond .lt 7, 3) := by decide +kernel
theorem dX6_readHead_83 : decode cX6_readHead 83 = .ok (.iconst 1, 1) := by decide +kernel
theorem dX6_readHead_84 : decode cX6_readHead 84 = .ok (.goto 4, 3) := by decide +kernel
theorem dX6_readHead_87 : decode cX6_readHead 87 = .ok (.iconst 0, 1) := by decide +kernel
theorem dX6_readHead_88 : decode cX6_readHead 88 = .ok (.ireturn, 1) := by decide +kernel
theorem dX6_readBlocks_0 : decode cX6_readBlocks 0 = .ok (.iconst 0, 1) := by decide +kernel
theorem dX6_readBlocks_1 : decode cX6_readBlocks 1 = .ok (.istore_n 1, 1) := by decide +kernel
theorem dX6_readBlocks_2 : decode cX6_readBlocks 2 = .ok (.iload_n 1, 1) := by decide +kernel
theorem dX6_readBlocks_3 : decode cX6_readBlocks 3 = .ok (.aload_n 0, 1) := by decide +kernel
theorem dX6_readBlocks_4 : decode cX6_readBlocks 4 = .ok (.getfield 12, 3) := by decide +kernel
theorem dX6_readBlocks_7 : decode cX6_readBlocks 7 = .ok (.getfield 49, 3) := by decide +kernel
theorem dX6_readBlocks_10 : decode cX6_readBlocks 10 = .ok (.if_icmp .ge 19, 3) := by decide +kernel
theorem dX6_readBlocks_13 : decode cX6_readBlocks 13 = .ok (.aload_n 0, 1) := by decide +kernel
theorem dX6_readBlocks_14 : decode cX6_readBlocks 14 = .ok (.iload_n 1, 1) := by decide +kernel
theorem dX6_readBlocks_15 : decode cX6_readBlocks 15 = .ok (.invokevirtual 62, 3) := by decide +kernel
theorem dX6_readBlocks_18 : decode cX6_readBlocks 18 = .ok (.ifCond .ne 5, 3) := by decide +kernel
theorem dX6_readBlocks_21 : decode cX6_readBlocks 21 = .ok (.iconst 0, 1) := by decide +kernel
theorem dX6_readBlocks_22 : decode cX6_readBlocks 22 = .ok (.ireturn, 1) := by decide +kernel
theorem dX6_readBlocks_23 : decode cX6_readBlocks 23 = .ok (.iinc 1 1, 3) := by decide +kernel
theorem dX6_readBlocks_26 : decode cX6_readBlocks 26 = .ok (.goto (-24), 3) := by decide +kernel
theorem dX6_readBlocks_29 : decode cX6_readBlocks 29 = .ok (.iconst 1, 1) := by decide +kernel
theorem dX6_readBlocks_30 : decode cX6_readBlocks 30 = .ok (.ireturn, 1) := by decide +kernel
theorem dX6_readBlock_0 : decode cX6_readBlock 0 = .ok (.aload_n 0, 1) := by decide +kernel
theorem dX6_readBlock_1 : decode cX6_readBlock 1 = .ok (.iconst 0, 1) := by decide +kernel
theorem dX6_readBlock_2 : decode cX6_readBlock 2 = .ok (.bipush 9, 2) := by decide +kernel
theorem dX6_readBlock_4 : decode cX6_readBlock 4 = .ok (.invokevirtual 45, 3) := by decide +kernel
theorem dX6_readBlock_7 : decode cX6_readBlock 7 = .ok (.istore_n 2, 1) := by decide +kernel
theorem dX6_readBlock_8 : decode cX6_readBlock 8 = .ok (.iload_n 2, 1) := by decide +kernel
theorem dX6_readBlock_9 : decode cX6_readBlock 9 = .ok (.ifCond .ge 5, 3) := by decide +kernel
theorem dX6_readBlock_12 : decode cX6_readBlock 12 = .ok (.iconst 0, 1) := by decide +kernel
theorem dX6_readBlock_13 : decode cX6_readBlock 13 = .ok (.ireturn, 1) := by decide +kernel
theorem dX6_readBlock_14 : decode cX6_readBlock 14 = .ok (.aload_n 0, 1) := by decide +kernel
theorem dX6_readBlock_15 : decode cX6_readBlock 15 = .ok (.getfield 12, 3) := by decide +kernel
theorem dX6_readBlock_18 : decode cX6_readBlock 18 = .ok (.getfield 66, 3) := by decide +kernel
theorem dX6_readBlock_21 : decode cX6_readBlock 21 = .ok (.iload_n 1, 1) := by decide +kernel
theorem dX6_readBlock_22 : decode cX6_readBlock 22 = .ok (.iload_n 2, 1) := by decide +kernel
theorem dX6_readBlock_23 : decode cX6_readBlock 23 = .ok (.iastore, 1) := by decide +kernel
theorem dX6_readBlock_24 : decode cX6_readBlock 24 = .ok (.aload_n 0, 1) := by decide +kernel
theorem dX6_readBlock_25 : decode cX6_readBlock 25 = .ok (.iconst 0, 1) := by decide +kernel
theorem dX6_readBlock_26 : decode cX6_readBlock 26 = .ok (.iconst 2, 1) := by decide +kernel
theorem dX6_readBlock_27 : decode cX6_readBlock 27 = .ok (.aload_n 0, 1) := by decide +kernel
theorem dX6_readBlock_28 : decode cX6_readBlock 28 = .ok (.getfield 12, 3) := by decide +kernel
theorem dX6_readBlock_31 : decode cX6_readBlock 31 = .ok (.getfield 49, 3) := by decide +kernel
theorem dX6_readBlock_34 : decode cX6_readBlock 34 = .ok (.invokestatic 69, 3) := by decide +kernel
theorem dX6_readBlock_37 : decode cX6_readBlock 37 = .ok (.invokevirtual 45, 3) := by decide +kernel
theorem dX6_readBlock_40 : decode cX6_readBlock 40 = .ok (.istore_n 3, 1) := by decide +kernel
theorem dX6_readBlock_41 : decode cX6_readBlock 41 = .ok (.iload_n 3, 1) := by decide +kernel
theorem dX6_readBlock_42 : decode cX6_readBlock 42 = .ok (.ifCond .ge 5, 3) := by decide +kernel
theorem dX6_readBlock_45 : decode cX6_readBlock 45 = .ok (.iconst 0, 1) := by decide +kernel
theorem dX6_readBlock_46 : decode cX6_readBlock 46 = .ok (.ireturn, 1) := by decide +kernel
theorem dX6_readBlock_47 : decode cX6_readBlock 47 = .ok (.aload_n 0, 1) := by decide +kernel
theorem dX6_readBlock_48 : decode cX6_readBlock 48 = .ok (.getfield 23, 3) := by decide +kernel
theorem dX6_readBlock_51 : decode cX6_readBlock 51 = .ok (.getfield 74, 3) := by decide +kernel
theorem dX6_readBlock_54 : decode cX6_readBlock 54 = .ok (.iload_n 1, 1) := by decide +kernel
theorem dX6_readBlock_55 : decode cX6_readBlock 55 = .ok (.iload_n 3, 1) := by decide +kernel
theorem dX6_readBlock_56 : decode cX6_readBlock 56 = .ok (.iastore, 1) := by decide +kernel
theorem dX6_readBlock_57 : decode cX6_readBlock 57 = .ok (.iconst 0, 1) := by decide +kernel
theorem dX6_readBlock_58 : decode cX6_readBlock 58 = .ok (.istore 4, 2) := by decide +kernel
theorem dX6_readBlock_60 : decode cX6_readBlock 60 = .ok (.iload 4, 2) := by decide +kernel
theorem dX6_readBlock_62 : decode cX6_readBlock 62 = .ok (.iload_n 3, 1) := by decide +kernel
theorem dX6_readBlock_63 : decode cX6_readBlock 63 = .ok (.if_icmp .ge 21, 3) := by decide +kernel
theorem dX6_readBlock_66 : decode cX6_readBlock 66 = .ok (.aload_n 0, 1) := by decide +kernel
theorem dX6_readBlock_67 : decode cX6_readBlock 67 = .ok (.iload_n 1, 1) := by decide +kernel
theorem dX6_readBlock_68 : decode cX6_readBlock 68 = .ok (.iload 4, 2) := by decide +kernel
theorem dX6_readBlock_70 : decode cX6_readBlock 70 = .ok (.invokevirtual 77, 3) := by decide +kernel
theorem dX6_readBlock_73 : decode cX6_readBlock 73 = .ok (.ifCond .ne 5, 3) := by decide +kernel
theorem dX6_readBlock_76 : decode cX6_readBlock 76 = .ok (.iconst 0, 1) := by decide +kernel
theorem dX6_readBlock_77 : decode cX6_readBlock 77 = .ok (.ireturn, 1) := by decide +kernel
theorem dX6_readBlock_78 : decode cX6_readBlock 78 = .ok (.iinc 4 1, 3) := by decide +kernel
theorem dX6_readBlock_81 : decode cX6_readBlock 81 = .ok (.goto (-21), 3) := by decide +kernel
theorem dX6_readBlock_84 : decode cX6_readBlock 84 = .ok (.iconst 1, 1) := by decide +kernel
theorem dX6_readBlock_85 : decode cX6_readBlock 85 = .ok (.ireturn, 1) := by decide +kernel
theorem dX6_readEdge_0 : decode cX6_readEdge 0 = .ok (.aload_n 0, 1) := by decide +kernel
theorem dX6_readEdge_1 : decode cX6_readEdge 1 = .ok (.iconst 0, 1) := by decide +kernel
theorem dX6_readEdge_2 : decode cX6_readEdge 2 = .ok (.aload_n 0, 1) := by decide +kernel
theorem dX6_readEdge_3 : decode cX6_readEdge 3 = .ok (.getfield 12, 3) := by decide +kernel
theorem dX6_readEdge_6 : decode cX6_readEdge 6 = .ok (.getfield 49, 3) := by decide +kernel
theorem dX6_readEdge_9 : decode cX6_readEdge 9 = .ok (.iconst 1, 1) := by decide +kernel
theorem dX6_readEdge_10 : decode cX6_readEdge 10 = .ok (.isub, 1) := by decide +kernel
theorem dX6_readEdge_11 : decode cX6_readEdge 11 = .ok (.invokevirtual 45, 3) := by decide +kernel
theorem dX6_readEdge_14 : decode cX6_readEdge 14 = .ok (.istore_n 3, 1) := by decide +kernel
theorem dX6_readEdge_15 : decode cX6_readEdge 15 = .ok (.iload_n 3, 1) := by decide +kernel
theorem dX6_readEdge_16 : decode cX6_readEdge 16 = .ok (.ifCond .ge 5, 3) := by decide +kernel
theorem dX6_readEdge_19 : decode cX6_readEdge 19 = .ok (.iconst 0, 1) := by decide +kernel
theorem dX6_readEdge_20 : decode cX6_readEdge 20 = .ok (.ireturn, 1) := by decide +kernel
theorem dX6_readEdge_21 : decode cX6_readEdge 21 = .ok (.iload_n 2, 1) := by decide +kernel
theorem dX6_readEdge_22 : decode cX6_readEdge 22 = .ok (.iconst 1, 1) := by decide +kernel
theorem dX6_readEdge_23 : decode cX6_readEdge 23 = .ok (.if_icmp .ne 28, 3) := by decide +kernel
theorem dX6_readEdge_26 : decode cX6_readEdge 26 = .ok (.iload_n 3, 1) := by decide +kernel
theorem dX6_readEdge_27 : decode cX6_readEdge 27 = .ok (.aload_n 0, 1) := by decide +kernel
theorem dX6_readEdge_28 : decode cX6_readEdge 28 = .ok (.getfield 23, 3) := by decide +kernel
theorem dX6_readEdge_31 : decode cX6_readEdge 31 = .ok (.iload_n 1, 1) := by decide +kernel
theorem dX6_readEdge_32 : decode cX6_readEdge 32 = .ok (.iconst 0, 1) := by decide +kernel
theorem dX6_readEdge_33 : decode cX6_readEdge 33 = .ok (.invokevirtual 81, 3) := by decide +kernel
theorem dX6_readEdge_36 : decode cX6_readEdge 36 = .ok (.if_icmp .ne 15, 3) := by decide +kernel
theorem dX6_readEdge_39 : decode cX6_readEdge 39 = .ok (.aload_n 0, 1) := by decide +kernel
theorem dX6_readEdge_40 : decode cX6_readEdge 40 = .ok (.dup, 1) := by decide +kernel
theorem dX6_readEdge_41 : decode cX6_readEdge 41 = .ok (.getfield 35, 3) := by decide +kernel
theorem dX6_readEdge_44 : decode cX6_readEdge 44 = .ok (.iconst 1, 1) := by decide +kernel
theorem dX6_readEdge_45 : decode cX6_readEdge 45 = .ok (.isub, 1) := by decide +kernel
theorem dX6_readEdge_46 : decode cX6_readEdge 46 = .ok (.putfield 35, 3) := by decide +kernel
theorem dX6_readEdge_49 : decode cX6_readEdge 49 = .ok (.iconst 0, 1) := by decide +kernel
theorem dX6_readEdge_50 : decode cX6_readEdge 50 = .ok (.ireturn, 1) := by decide +kernel
theorem dX6_readEdge_51 : decode cX6_readEdge 51 = .ok (.aload_n 0, 1) := by decide +kernel
theorem dX6_readEdge_52 : decode cX6_readEdge 52 = .ok (.invokevirtual 52, 3) := by decide +kernel
theorem dX6_readEdge_55 : decode cX6_readEdge 55 = .ok (.istore 4, 2) := by decide +kernel
theorem dX6_readEdge_57 : decode cX6_readEdge 57 = .ok (.aload_n 0, 1) := by decide +kernel
theorem dX6_readEdge_58 : decode cX6_readEdge 58 = .ok (.getfield 23, 3) := by decide +kernel
theorem dX6_readEdge_61 : decode cX6_readEdge 61 = .ok (.iload_n 1, 1) := by decide +kernel
theorem dX6_readEdge_62 : decode cX6_readEdge 62 = .ok (.iload_n 2, 1) := by decide +kernel
theorem dX6_readEdge_63 : decode cX6_readEdge 63 = .ok (.iload_n 3, 1) := by decide +kernel
theorem dX6_readEdge_64 : decode cX6_readEdge 64 = .ok (.invokevirtual 84, 3) := by decide +kernel
theorem dX6_readEdge_67 : decode cX6_readEdge 67 = .ok (.aload_n 0, 1) := by decide +kernel
theorem dX6_readEdge_68 : decode cX6_readEdge 68 = .ok (.getfield 23, 3) := by decide +kernel
theorem dX6_readEdge_71 : decode cX6_readEdge 71 = .ok (.iload_n 1, 1) := by decide +kernel
theorem dX6_readEdge_72 : decode cX6_readEdge 72 = .ok (.iload_n 2, 1) := by decide +kernel
theorem dX6_readEdge_73 : decode cX6_readEdge 73 = .ok (.iload 4, 2) := by decide +kernel
theorem dX6_readEdge_75 : decode cX6_readEdge 75 = .ok (.invokevirtual 88, 3) := by decide +kernel
theorem dX6_readEdge_78 : decode cX6_readEdge 78 = .ok (.iload 4, 2) := by decide +kernel
theorem dX6_readEdge_80 : decode cX6_readEdge 80 = .ok (.ifCond .lt 7, 3) := by decide +kernel
theorem dX6_readEdge_83 : decode cX6_readEdge 83 = .ok (.iconst 1, 1) := by decide +kernel
theorem dX6_readEdge_84 : decode cX6_readEdge 84 = .ok (.goto 4, 3) := by decide +kernel
theorem dX6_readEdge_87 : decode cX6_readEdge 87 = .ok (.iconst 0, 1) := by decide +kernel
theorem dX6_readEdge_88 : decode cX6_readEdge 88 = .ok (.ireturn, 1) := by decide +kernel
theorem dX6_readCount_0 : decode cX6_readCount 0 = .ok (.aload_n 0, 1) := by decide +kernel
theorem dX6_readCount_1 : decode cX6_readCount 1 = .ok (.iconst 0, 1) := by decide +kernel
theorem dX6_readCount_2 : decode cX6_readCount 2 = .ok (.bipush 9, 2) := by decide +kernel
theorem dX6_readCount_4 : decode cX6_readCount 4 = .ok (.invokevirtual 45, 3) := by decide +kernel
theorem dX6_readCount_7 : decode cX6_readCount 7 = .ok (.istore_n 1, 1) := by decide +kernel
theorem dX6_readCount_8 : decode cX6_readCount 8 = .ok (.iload_n 1, 1) := by decide +kernel
theorem dX6_readCount_9 : decode cX6_readCount 9 = .ok (.ifCond .ge 5, 3) := by decide +kernel
theorem dX6_readCount_12 : decode cX6_readCount 12 = .ok (.iconst (-1), 1) := by decide +kernel
theorem dX6_readCount_13 : decode cX6_readCount 13 = .ok (.ireturn, 1) := by decide +kernel
theorem dX6_readCount_14 : decode cX6_readCount 14 = .ok (.aload_n 0, 1) := by decide +kernel
theorem dX6_readCount_15 : decode cX6_readCount 15 = .ok (.iconst 0, 1) := by decide +kernel
theorem dX6_readCount_16 : decode cX6_readCount 16 = .ok (.bipush 9, 2) := by decide +kernel
theorem dX6_readCount_18 : decode cX6_readCount 18 = .ok (.invokevirtual 45, 3) := by decide +kernel
theorem dX6_readCount_21 : decode cX6_readCount 21 = .ok (.istore_n 2, 1) := by decide +kernel
theorem dX6_readCount_22 : decode cX6_readCount 22 = .ok (.iload_n 2, 1) := by decide +kernel
theorem dX6_readCount_23 : decode cX6_readCount 23 = .ok (.ifCond .ge 7, 3) := by decide +kernel
theorem dX6_readCount_26 : decode cX6_readCount 26 = .ok (.iconst (-1), 1) := by decide +kernel
theorem dX6_readCount_27 : decode cX6_readCount 27 = .ok (.goto 9, 3) := by decide +kernel
theorem dX6_readCount_30 : decode cX6_readCount 30 = .ok (.bipush 10, 2) := by decide +kernel
theorem dX6_readCount_32 : decode cX6_readCount 32 = .ok (.iload_n 1, 1) := by decide +kernel
theorem dX6_readCount_33 : decode cX6_readCount 33 = .ok (.imul, 1) := by decide +kernel
theorem dX6_readCount_34 : decode cX6_readCount 34 = .ok (.iload_n 2, 1) := by decide +kernel
theorem dX6_readCount_35 : decode cX6_readCount 35 = .ok (.iadd, 1) := by decide +kernel
theorem dX6_readCount_36 : decode cX6_readCount 36 = .ok (.ireturn, 1) := by decide +kernel
theorem dX6_readDigit_0 : decode cX6_readDigit 0 = .ok (.aload_n 0, 1) := by decide +kernel
theorem dX6_readDigit_1 : decode cX6_readDigit 1 = .ok (.getfield 35, 3) := by decide +kernel
theorem dX6_readDigit_4 : decode cX6_readDigit 4 = .ok (.aload_n 0, 1) := by decide +kernel
theorem dX6_readDigit_5 : decode cX6_readDigit 5 = .ok (.getfield 31, 3) := by decide +kernel
theorem dX6_readDigit_8 : decode cX6_readDigit 8 = .ok (.if_icmp .lt 5, 3) := by decide +kernel
theorem dX6_readDigit_11 : decode cX6_readDigit 11 = .ok (.iconst (-1), 1) := by decide +kernel
theorem dX6_readDigit_12 : decode cX6_readDigit 12 = .ok (.ireturn, 1) := by decide +kernel
theorem dX6_readDigit_13 : decode cX6_readDigit 13 = .ok (.aload_n 0, 1) := by decide +kernel
theorem dX6_readDigit_14 : decode cX6_readDigit 14 = .ok (.getfield 27, 3) := by decide +kernel
theorem dX6_readDigit_17 : decode cX6_readDigit 17 = .ok (.aload_n 0, 1) := by decide +kernel
theorem dX6_readDigit_18 : decode cX6_readDigit 18 = .ok (.getfield 35, 3) := by decide +kernel
theorem dX6_readDigit_21 : decode cX6_readDigit 21 = .ok (.iaload, 1) := by decide +kernel
theorem dX6_readDigit_22 : decode cX6_readDigit 22 = .ok (.bipush 48, 2) := by decide +kernel
theorem dX6_readDigit_24 : decode cX6_readDigit 24 = .ok (.isub, 1) := by decide +kernel
theorem dX6_readDigit_25 : decode cX6_readDigit 25 = .ok (.istore_n 3, 1) := by decide +kernel
theorem dX6_readDigit_26 : decode cX6_readDigit 26 = .ok (.iload_n 3, 1) := by decide +kernel
theorem dX6_readDigit_27 : decode cX6_readDigit 27 = .ok (.iload_n 1, 1) := by decide +kernel
theorem dX6_readDigit_28 : decode cX6_readDigit 28 = .ok (.if_icmp .lt 8, 3) := by decide +kernel
theorem dX6_readDigit_31 : decode cX6_readDigit 31 = .ok (.iload_n 3, 1) := by decide +kernel
theorem dX6_readDigit_32 : decode cX6_readDigit 32 = .ok (.iload_n 2, 1) := by decide +kernel
theorem dX6_readDigit_33 : decode cX6_readDigit 33 = .ok (.if_icmp .le 5, 3) := by decide +kernel
theorem dX6_readDigit_36 : decode cX6_readDigit 36 = .ok (.iconst (-1), 1) := by decide +kernel
theorem dX6_readDigit_37 : decode cX6_readDigit 37 = .ok (.ireturn, 1) := by decide +kernel
theorem dX6_readDigit_38 : decode cX6_readDigit 38 = .ok (.aload_n 0, 1) := by decide +kernel
theorem dX6_readDigit_39 : decode cX6_readDigit 39 = .ok (.dup, 1) := by decide +kernel
theorem dX6_readDigit_40 : decode cX6_readDigit 40 = .ok (.getfield 35, 3) := by decide +kernel
theorem dX6_readDigit_43 : decode cX6_readDigit 43 = .ok (.iconst 1, 1) := by decide +kernel
theorem dX6_readDigit_44 : decode cX6_readDigit 44 = .ok (.iadd, 1) := by decide +kernel
theorem dX6_readDigit_45 : decode cX6_readDigit 45 = .ok (.putfield 35, 3) := by decide +kernel
theorem dX6_readDigit_48 : decode cX6_readDigit 48 = .ok (.iload_n 3, 1) := by decide +kernel
theorem dX6_readDigit_49 : decode cX6_readDigit 49 = .ok (.ireturn, 1) := by decide +kernel
theorem dX8_costOf_0 : decode cX8_costOf 0 = .ok (.lload_n 1, 1) := by decide +kernel
theorem dX8_costOf_1 : decode cX8_costOf 1 = .ok (.lstore 4, 2) := by decide +kernel
theorem dX8_costOf_3 : decode cX8_costOf 3 = .ok (.iconst 0, 1) := by decide +kernel
theorem dX8_costOf_4 : decode cX8_costOf 4 = .ok (.istore 6, 2) := by decide +kernel
theorem dX8_costOf_6 : decode cX8_costOf 6 = .ok (.iconst 0, 1) := by decide +kernel
theorem dX8_costOf_7 : decode cX8_costOf 7 = .ok (.istore 7, 2) := by decide +kernel
theorem dX8_costOf_9 : decode cX8_costOf 9 = .ok (.iconst 0, 1) := by decide +kernel
theorem dX8_costOf_10 : decode cX8_costOf 10 = .ok (.istore 8, 2) := by decide +kernel
theorem dX8_costOf_12 : decode cX8_costOf 12 = .ok (.iload 8, 2) := by decide +kernel
theorem dX8_costOf_14 : decode cX8_costOf 14 = .ok (.iload_n 3, 1) := by decide +kernel
theorem dX8_costOf_15 : decode cX8_costOf 15 = .ok (.if_icmp .ge 80, 3) := by decide +kernel
theorem dX8_costOf_18 : decode cX8_costOf 18 = .ok (.lload 4, 2) := by decide +kernel
theorem dX8_costOf_20 : decode cX8_costOf 20 = .ok (.ldc2_w 9, 3) := by decide +kernel
theorem dX8_costOf_23 : decode cX8_costOf 23 = .ok (.lmul, 1) := by decide +kernel
theorem dX8_costOf_24 : decode cX8_costOf 24 = .ok (.ldc2_w 11, 3) := by decide +kernel
theorem dX8_costOf_27 : decode cX8_costOf 27 = .ok (.ladd, 1) := by decide +kernel
theorem dX8_costOf_28 : decode cX8_costOf 28 = .ok (.lstore 4, 2) := by decide +kernel
theorem dX8_costOf_30 : decode cX8_costOf 30 = .ok (.aload_n 0, 1) := by decide +kernel
theorem dX8_costOf_31 : decode cX8_costOf 31 = .ok (.getfield 13, 3) := by decide +kernel
theorem dX8_costOf_34 : decode cX8_costOf 34 = .ok (.iload 6, 2) := by decide +kernel
theorem dX8_costOf_36 : decode cX8_costOf 36 = .ok (.iaload, 1) := by decide +kernel
theorem dX8_costOf_37 : decode cX8_costOf 37 = .ok (.ifCond .ne 9, 3) := by decide +kernel
theorem dX8_costOf_40 : decode cX8_costOf 40 = .ok (.iconst 0, 1) := by decide +kernel
theorem dX8_costOf_41 : decode cX8_costOf 41 = .ok (.istore 6, 2) := by decide +kernel
theorem dX8_costOf_43 : decode cX8_costOf 43 = .ok (.goto 46, 3) := by decide +kernel
theorem dX8_costOf_46 : decode cX8_costOf 46 = .ok (.aload_n 0, 1) := by decide +kernel
theorem dX8_costOf_47 : decode cX8_costOf 47 = .ok (.iload 6, 2) := by decide +kernel
theorem dX8_costOf_49 : decode cX8_costOf 49 = .ok (.lload 4, 2) := by decide +kernel
theorem dX8_costOf_51 : decode cX8_costOf 51 = .ok (.bipush 33, 2) := by decide +kernel
theorem dX8_costOf_53 : decode cX8_costOf 53 = .ok (.lushr, 1) := by decide +kernel
theorem dX8_costOf_54 : decode cX8_costOf 54 = .ok (.l2i, 1) := by decide +kernel
theorem dX8_costOf_55 : decode cX8_costOf 55 = .ok (.invokestatic 19, 3) := by decide +kernel
theorem dX8_costOf_58 : decode cX8_costOf 58 = .ok (.istore 9, 2) := by decide +kernel
theorem dX8_costOf_60 : decode cX8_costOf 60 = .ok (.iload 7, 2) := by decide +kernel
theorem dX8_costOf_62 : decode cX8_costOf 62 = .ok (.aload_n 0, 1) := by decide +kernel
theorem dX8_costOf_63 : decode cX8_costOf 63 = .ok (.iload 6, 2) := by decide +kernel
theorem dX8_costOf_65 : decode cX8_costOf 65 = .ok (.iload 9, 2) := by decide +kernel
theorem dX8_costOf_67 : decode cX8_costOf 67 = .ok (.aload_n 0, 1) := by decide +kernel
theorem dX8_costOf_68 : decode cX8_costOf 68 = .ok (.iload 6, 2) := by decide +kernel
theorem dX8_costOf_70 : decode cX8_costOf 70 = .ok (.invokevirtual 23, 3) := by decide +kernel
theorem dX8_costOf_73 : decode cX8_costOf 73 = .ok (.invokevirtual 27, 3) := by decide +kernel
theorem dX8_costOf_76 : decode cX8_costOf 76 = .ok (.iadd, 1) := by decide +kernel
theorem dX8_costOf_77 : decode cX8_costOf 77 = .ok (.istore 7, 2) := by decide +kernel
theorem dX8_costOf_79 : decode cX8_costOf 79 = .ok (.aload_n 0, 1) := by decide +kernel
theorem dX8_costOf_80 : decode cX8_costOf 80 = .ok (.iload 6, 2) := by decide +kernel
theorem dX8_costOf_82 : decode cX8_costOf 82 = .ok (.iload 9, 2) := by decide +kernel
theorem dX8_costOf_84 : decode cX8_costOf 84 = .ok (.invokevirtual 31, 3) := by decide +kernel
theorem dX8_costOf_87 : decode cX8_costOf 87 = .ok (.istore 6, 2) := by decide +kernel
theorem dX8_costOf_89 : decode cX8_costOf 89 = .ok (.iinc 8 1, 3) := by decide +kernel
theorem dX8_costOf_92 : decode cX8_costOf 92 = .ok (.goto (-80), 3) := by decide +kernel
theorem dX8_costOf_95 : decode cX8_costOf 95 = .ok (.iload 7, 2) := by decide +kernel
theorem dX8_costOf_97 : decode cX8_costOf 97 = .ok (.ireturn, 1) := by decide +kernel
theorem dX8_slotTaken_0 : decode cX8_slotTaken 0 = .ok (.aload_n 0, 1) := by decide +kernel
theorem dX8_slotTaken_1 : decode cX8_slotTaken 1 = .ok (.getfield 13, 3) := by decide +kernel
theorem dX8_slotTaken_4 : decode cX8_slotTaken 4 = .ok (.iload_n 1, 1) := by decide +kernel
theorem dX8_slotTaken_5 : decode cX8_slotTaken 5 = .ok (.iaload, 1) := by decide +kernel
theorem dX8_slotTaken_6 : decode cX8_slotTaken 6 = .ok (.iconst 1, 1) := by decide +kernel
theorem dX8_slotTaken_7 : decode cX8_slotTaken 7 = .ok (.if_icmp .ne 5, 3) := by decide +kernel
theorem dX8_slotTaken_10 : decode cX8_slotTaken 10 = .ok (.iconst 0, 1) := by decide +kernel
theorem dX8_slotTaken_11 : decode cX8_slotTaken 11 = .ok (.ireturn, 1) := by decide +kernel
theorem dX8_slotTaken_12 : decode cX8_slotTaken 12 = .ok (.aload_n 0, 1) := by decide +kernel
theorem dX8_slotTaken_13 : decode cX8_slotTaken 13 = .ok (.iload_n 1, 1) := by decide +kernel
theorem dX8_slotTaken_14 : decode cX8_slotTaken 14 = .ok (.iconst 0, 1) := by decide +kernel
theorem dX8_slotTaken_15 : decode cX8_slotTaken 15 = .ok (.invokevirtual 35, 3) := by decide +kernel
theorem dX8_slotTaken_18 : decode cX8_slotTaken 18 = .ok (.aload_n 0, 1) := by decide +kernel
theorem dX8_slotTaken_19 : decode cX8_slotTaken 19 = .ok (.iload_n 1, 1) := by decide +kernel
theorem dX8_slotTaken_20 : decode cX8_slotTaken 20 = .ok (.iconst 1, 1) := by decide +kernel
theorem dX8_slotTaken_21 : decode cX8_slotTaken 21 = .ok (.invokevirtual 35, 3) := by decide +kernel
theorem dX8_slotTaken_24 : decode cX8_slotTaken 24 = .ok (.iadd, 1) := by decide +kernel
theorem dX8_slotTaken_25 : decode cX8_slotTaken 25 = .ok (.istore_n 3, 1) := by decide +kernel
theorem dX8_slotTaken_26 : decode cX8_slotTaken 26 = .ok (.iload_n 3, 1) := by decide +kernel
theorem dX8_slotTaken_27 : decode cX8_slotTaken 27 = .ok (.ifCond .eq 15, 3) := by decide +kernel
theorem dX8_slotTaken_30 : decode cX8_slotTaken 30 = .ok (.iload_n 2, 1) := by decide +kernel
theorem dX8_slotTaken_31 : decode cX8_slotTaken 31 = .ok (.iload_n 3, 1) := by decide +kernel
theorem dX8_slotTaken_32 : decode cX8_slotTaken 32 = .ok (.irem, 1) := by decide +kernel
theorem dX8_slotTaken_33 : decode cX8_slotTaken 33 = .ok (.aload_n 0, 1) := by decide +kernel
theorem dX8_slotTaken_34 : decode cX8_slotTaken 34 = .ok (.iload_n 1, 1) := by decide +kernel
theorem dX8_slotTaken_35 : decode cX8_slotTaken 35 = .ok (.iconst 0, 1) := by decide +kernel
theorem dX8_slotTaken_36 : decode cX8_slotTaken 36 = .ok (.invokevirtual 35, 3) := by decide +kernel
theorem dX8_slotTaken_39 : decode cX8_slotTaken 39 = .ok (.if_icmp .ge 7, 3) := by decide +kernel
theorem dX8_slotTaken_42 : decode cX8_slotTaken 42 = .ok (.iconst 0, 1) := by decide +kernel
theorem dX8_slotTaken_43 : decode cX8_slotTaken 43 = .ok (.goto 4, 3) := by decide +kernel
theorem dX8_slotTaken_46 : decode cX8_slotTaken 46 = .ok (.iconst 1, 1) := by decide +kernel
theorem dX8_slotTaken_47 : decode cX8_slotTaken 47 = .ok (.ireturn, 1) := by decide +kernel
