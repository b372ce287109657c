theorem dX10_orderByChains_64 : decode cX10_orderByChains 64 = .ok (.iload_n 3, 1) := by decide +kernel
theorem dX10_orderByChains_65 : decode cX10_orderByChains 65 = .ok (.iconst 1, 1) := by decide +kernel
theorem dX10_orderByChains_66 : decode cX10_orderByChains 66 = .ok (.bastore, 1) := by decide +kernel
theorem dX10_orderByChains_67 : decode cX10_orderByChains 67 = .ok (.iinc 1 1, 3) := by decide +kernel
theorem dX10_orderByChains_70 : decode cX10_orderByChains 70 = .ok (.aload_n 0, 1) := by decide +kernel
theorem dX10_orderByChains_71 : decode cX10_orderByChains 71 = .ok (.getfield 44, 3) := by decide +kernel
theorem dX10_orderByChains_74 : decode cX10_orderByChains 74 = .ok (.iload_n 3, 1) := by decide +kernel
theorem dX10_orderByChains_75 : decode cX10_orderByChains 75 = .ok (.iaload, 1) := by decide +kernel
theorem dX10_orderByChains_76 : decode cX10_orderByChains 76 = .ok (.istore_n 3, 1) := by decide +kernel
theorem dX10_orderByChains_77 : decode cX10_orderByChains 77 = .ok (.goto (-32), 3) := by decide +kernel
theorem dX10_orderByChains_80 : decode cX10_orderByChains 80 = .ok (.iconst (-1), 1) := by decide +kernel
theorem dX10_orderByChains_81 : decode cX10_orderByChains 81 = .ok (.istore_n 3, 1) := by decide +kernel
theorem dX10_orderByChains_82 : decode cX10_orderByChains 82 = .ok (.iconst 0, 1) := by decide +kernel
theorem dX10_orderByChains_83 : decode cX10_orderByChains 83 = .ok (.istore 4, 2) := by decide +kernel
theorem dX10_orderByChains_85 : decode cX10_orderByChains 85 = .ok (.iload 4, 2) := by decide +kernel
theorem dX10_orderByChains_87 : decode cX10_orderByChains 87 = .ok (.aload_n 0, 1) := by decide +kernel
theorem dX10_orderByChains_88 : decode cX10_orderByChains 88 = .ok (.getfield 53, 3) := by decide +kernel
theorem dX10_orderByChains_91 : decode cX10_orderByChains 91 = .ok (.if_icmp .ge 51, 3) := by decide +kernel
theorem dX10_orderByChains_94 : decode cX10_orderByChains 94 = .ok (.aload_n 0, 1) := by decide +kernel
theorem dX10_orderByChains_95 : decode cX10_orderByChains 95 = .ok (.getfield 41, 3) := by decide +kernel
theorem dX10_orderByChains_98 : decode cX10_orderByChains 98 = .ok (.iload 4, 2) := by decide +kernel
theorem dX10_orderByChains_100 : decode cX10_orderByChains 100 = .ok (.iaload, 1) := by decide +kernel
theorem dX10_orderByChains_101 : decode cX10_orderByChains 101 = .ok (.iload 4, 2) := by decide +kernel
theorem dX10_orderByChains_103 : decode cX10_orderByChains 103 = .ok (.if_icmp .ne 33, 3) := by decide +kernel
theorem dX10_orderByChains_106 : decode cX10_orderByChains 106 = .ok (.aload_n 0, 1) := by decide +kernel
theorem dX10_orderByChains_107 : decode cX10_orderByChains 107 = .ok (.getfield 47, 3) := by decide +kernel
theorem dX10_orderByChains_110 : decode cX10_orderByChains 110 = .ok (.iload 4, 2) := by decide +kernel
theorem dX10_orderByChains_112 : decode cX10_orderByChains 112 = .ok (.baload, 1) := by decide +kernel
theorem dX10_orderByChains_113 : decode cX10_orderByChains 113 = .ok (.ifCond .ne 23, 3) := by decide +kernel
theorem dX10_orderByChains_116 : decode cX10_orderByChains 116 = .ok (.aload_n 0, 1) := by decide +kernel
theorem dX10_orderByChains_117 : decode cX10_orderByChains 117 = .ok (.iload 4, 2) := by decide +kernel
theorem dX10_orderByChains_119 : decode cX10_orderByChains 119 = .ok (.invokevirtual 153, 3) := by decide +kernel
theorem dX10_orderByChains_122 : decode cX10_orderByChains 122 = .ok (.iload_n 3, 1) := by decide +kernel
theorem dX10_orderByChains_123 : decode cX10_orderByChains 123 = .ok (.if_icmp .le 13, 3) := by decide +kernel
theorem dX10_orderByChains_126 : decode cX10_orderByChains 126 = .ok (.aload_n 0, 1) := by decide +kernel
theorem dX10_orderByChains_127 : decode cX10_orderByChains 127 = .ok (.iload 4, 2) := by decide +kernel
theorem dX10_orderByChains_129 : decode cX10_orderByChains 129 = .ok (.invokevirtual 153, 3) := by decide +kernel
theorem dX10_orderByChains_132 : decode cX10_orderByChains 132 = .ok (.istore_n 3, 1) := by decide +kernel
theorem dX10_orderByChains_133 : decode cX10_orderByChains 133 = .ok (.iload 4, 2) := by decide +kernel
theorem dX10_orderByChains_135 : decode cX10_orderByChains 135 = .ok (.istore_n 2, 1) := by decide +kernel
theorem dX10_orderByChains_136 : decode cX10_orderByChains 136 = .ok (.iinc 4 1, 3) := by decide +kernel
theorem dX10_orderByChains_139 : decode cX10_orderByChains 139 = .ok (.goto (-54), 3) := by decide +kernel
theorem dX10_orderByChains_142 : decode cX10_orderByChains 142 = .ok (.goto (-107), 3) := by decide +kernel
theorem dX10_orderByChains_145 : decode cX10_orderByChains 145 = .ok (.aload_n 0, 1) := by decide +kernel
theorem dX10_orderByChains_146 : decode cX10_orderByChains 146 = .ok (.getfield 16, 3) := by decide +kernel
theorem dX10_orderByChains_149 : decode cX10_orderByChains 149 = .ok (.iconst 0, 1) := by decide +kernel
theorem dX10_orderByChains_150 : decode cX10_orderByChains 150 = .ok (.aload_n 0, 1) := by decide +kernel
theorem dX10_orderByChains_151 : decode cX10_orderByChains 151 = .ok (.getfield 53, 3) := by decide +kernel
theorem dX10_orderByChains_154 : decode cX10_orderByChains 154 = .ok (.iastore, 1) := by decide +kernel
theorem dX10_orderByChains_155 : decode cX10_orderByChains 155 = .ok (.aload_n 0, 1) := by decide +kernel
theorem dX10_orderByChains_156 : decode cX10_orderByChains 156 = .ok (.aload_n 0, 1) := by decide +kernel
theorem dX10_orderByChains_157 : decode cX10_orderByChains 157 = .ok (.getfield 16, 3) := by decide +kernel
theorem dX10_orderByChains_160 : decode cX10_orderByChains 160 = .ok (.invokevirtual 140, 3) := by decide +kernel
theorem dX10_orderByChains_163 : decode cX10_orderByChains 163 = .ok (.ireturn, 1) := by decide +kernel
theorem dX10_layOrder_0 : decode cX10_layOrder 0 = .ok (.aload_n 0, 1) := by decide +kernel
theorem dX10_layOrder_1 : decode cX10_layOrder 1 = .ok (.getfield 16, 3) := by decide +kernel
theorem dX10_layOrder_4 : decode cX10_layOrder 4 = .ok (.aload_n 0, 1) := by decide +kernel
theorem dX10_layOrder_5 : decode cX10_layOrder 5 = .ok (.getfield 19, 3) := by decide +kernel
theorem dX10_layOrder_8 : decode cX10_layOrder 8 = .ok (.invokestatic 100, 3) := by decide +kernel
theorem dX10_layOrder_11 : decode cX10_layOrder 11 = .ok (.iconst 0, 1) := by decide +kernel
theorem dX10_layOrder_12 : decode cX10_layOrder 12 = .ok (.istore_n 3, 1) := by decide +kernel
theorem dX10_layOrder_13 : decode cX10_layOrder 13 = .ok (.iconst 1, 1) := by decide +kernel
theorem dX10_layOrder_14 : decode cX10_layOrder 14 = .ok (.istore 4, 2) := by decide +kernel
theorem dX10_layOrder_16 : decode cX10_layOrder 16 = .ok (.iload 4, 2) := by decide +kernel
theorem dX10_layOrder_18 : decode cX10_layOrder 18 = .ok (.aload_n 0, 1) := by decide +kernel
theorem dX10_layOrder_19 : decode cX10_layOrder 19 = .ok (.getfield 53, 3) := by decide +kernel
theorem dX10_layOrder_22 : decode cX10_layOrder 22 = .ok (.if_icmp .ge 39, 3) := by decide +kernel
theorem dX10_layOrder_25 : decode cX10_layOrder 25 = .ok (.aload_n 0, 1) := by decide +kernel
theorem dX10_layOrder_26 : decode cX10_layOrder 26 = .ok (.aload_n 0, 1) := by decide +kernel
theorem dX10_layOrder_27 : decode cX10_layOrder 27 = .ok (.getfield 16, 3) := by decide +kernel
theorem dX10_layOrder_30 : decode cX10_layOrder 30 = .ok (.iload 4, 2) := by decide +kernel
theorem dX10_layOrder_32 : decode cX10_layOrder 32 = .ok (.invokevirtual 114, 3) := by decide +kernel
theorem dX10_layOrder_35 : decode cX10_layOrder 35 = .ok (.aload_n 0, 1) := by decide +kernel
theorem dX10_layOrder_36 : decode cX10_layOrder 36 = .ok (.getfield 16, 3) := by decide +kernel
theorem dX10_layOrder_39 : decode cX10_layOrder 39 = .ok (.iconst 0, 1) := by decide +kernel
theorem dX10_layOrder_40 : decode cX10_layOrder 40 = .ok (.iaload, 1) := by decide +kernel
theorem dX10_layOrder_41 : decode cX10_layOrder 41 = .ok (.if_icmp .ge 14, 3) := by decide +kernel
theorem dX10_layOrder_44 : decode cX10_layOrder 44 = .ok (.aload_n 0, 1) := by decide +kernel
theorem dX10_layOrder_45 : decode cX10_layOrder 45 = .ok (.getfield 50, 3) := by decide +kernel
theorem dX10_layOrder_48 : decode cX10_layOrder 48 = .ok (.iload_n 3, 1) := by decide +kernel
theorem dX10_layOrder_49 : decode cX10_layOrder 49 = .ok (.iload 4, 2) := by decide +kernel
theorem dX10_layOrder_51 : decode cX10_layOrder 51 = .ok (.iastore, 1) := by decide +kernel
theorem dX10_layOrder_52 : decode cX10_layOrder 52 = .ok (.iinc 3 1, 3) := by decide +kernel
theorem dX10_layOrder_55 : decode cX10_layOrder 55 = .ok (.iinc 4 1, 3) := by decide +kernel
theorem dX10_layOrder_58 : decode cX10_layOrder 58 = .ok (.goto (-42), 3) := by decide +kernel
theorem dX10_layOrder_61 : decode cX10_layOrder 61 = .ok (.iload_n 1, 1) := by decide +kernel
theorem dX10_layOrder_62 : decode cX10_layOrder 62 = .ok (.istore 4, 2) := by decide +kernel
theorem dX10_layOrder_64 : decode cX10_layOrder 64 = .ok (.iload_n 2, 1) := by decide +kernel
theorem dX10_layOrder_65 : decode cX10_layOrder 65 = .ok (.istore 5, 2) := by decide +kernel
theorem dX10_layOrder_67 : decode cX10_layOrder 67 = .ok (.iconst 1, 1) := by decide +kernel
theorem dX10_layOrder_68 : decode cX10_layOrder 68 = .ok (.istore 6, 2) := by decide +kernel
theorem dX10_layOrder_70 : decode cX10_layOrder 70 = .ok (.iload_n 3, 1) := by decide +kernel
theorem dX10_layOrder_71 : decode cX10_layOrder 71 = .ok (.ifCond .le 80, 3) := by decide +kernel
theorem dX10_layOrder_74 : decode cX10_layOrder 74 = .ok (.iload 5, 2) := by decide +kernel
theorem dX10_layOrder_76 : decode cX10_layOrder 76 = .ok (.iload_n 3, 1) := by decide +kernel
theorem dX10_layOrder_77 : decode cX10_layOrder 77 = .ok (.idiv, 1) := by decide +kernel
theorem dX10_layOrder_78 : decode cX10_layOrder 78 = .ok (.istore 5, 2) := by decide +kernel
theorem dX10_layOrder_80 : decode cX10_layOrder 80 = .ok (.iload 4, 2) := by decide +kernel
theorem dX10_layOrder_82 : decode cX10_layOrder 82 = .ok (.iload 5, 2) := by decide +kernel
theorem dX10_layOrder_84 : decode cX10_layOrder 84 = .ok (.idiv, 1) := by decide +kernel
theorem dX10_layOrder_85 : decode cX10_layOrder 85 = .ok (.istore 7, 2) := by decide +kernel
theorem dX10_layOrder_87 : decode cX10_layOrder 87 = .ok (.iload 4, 2) := by decide +kernel
theorem dX10_layOrder_89 : decode cX10_layOrder 89 = .ok (.iload 5, 2) := by decide +kernel
theorem dX10_layOrder_91 : decode cX10_layOrder 91 = .ok (.irem, 1) := by decide +kernel
theorem dX10_layOrder_92 : decode cX10_layOrder 92 = .ok (.istore 4, 2) := by decide +kernel
theorem dX10_layOrder_94 : decode cX10_layOrder 94 = .ok (.aload_n 0, 1) := by decide +kernel
theorem dX10_layOrder_95 : decode cX10_layOrder 95 = .ok (.getfield 19, 3) := by decide +kernel
theorem dX10_layOrder_98 : decode cX10_layOrder 98 = .ok (.iconst 2, 1) := by decide +kernel
theorem dX10_layOrder_99 : decode cX10_layOrder 99 = .ok (.iload 6, 2) := by decide +kernel
theorem dX10_layOrder_101 : decode cX10_layOrder 101 = .ok (.iadd, 1) := by decide +kernel
theorem dX10_layOrder_102 : decode cX10_layOrder 102 = .ok (.aload_n 0, 1) := by decide +kernel
theorem dX10_layOrder_103 : decode cX10_layOrder 103 = .ok (.getfield 50, 3) := by decide +kernel
theorem dX10_layOrder_106 : decode cX10_layOrder 106 = .ok (.iload 7, 2) := by decide +kernel
theorem dX10_layOrder_108 : decode cX10_layOrder 108 = .ok (.iaload, 1) := by decide +kernel
theorem dX10_layOrder_109 : decode cX10_layOrder 109 = .ok (.iastore, 1) := by decide +kernel
theorem dX10_layOrder_110 : decode cX10_layOrder 110 = .ok (.iinc 3 (-1), 3) := by decide +kernel
theorem dX10_layOrder_113 : decode cX10_layOrder 113 = .ok (.iload 7, 2) := by decide +kernel
theorem dX10_layOrder_115 : decode cX10_layOrder 115 = .ok (.istore 8, 2) := by decide +kernel
theorem dX10_layOrder_117 : decode cX10_layOrder 117 = .ok (.iload 8, 2) := by decide +kernel
theorem dX10_layOrder_119 : decode cX10_layOrder 119 = .ok (.iload_n 3, 1) := by decide +kernel
theorem dX10_layOrder_120 : decode cX10_layOrder 120 = .ok (.if_icmp .ge 25, 3) := by decide +kernel
theorem dX10_layOrder_123 : decode cX10_layOrder 123 = .ok (.aload_n 0, 1) := by decide +kernel
theorem dX10_layOrder_124 : decode cX10_layOrder 124 = .ok (.getfield 50, 3) := by decide +kernel
theorem dX10_layOrder_127 : decode cX10_layOrder 127 = .ok (.iload 8, 2) := by decide +kernel
theorem dX10_layOrder_129 : decode cX10_layOrder 129 = .ok (.aload_n 0, 1) := by decide +kernel
theorem dX10_layOrder_130 : decode cX10_layOrder 130 = .ok (.getfield 50, 3) := by decide +kernel
theorem dX10_layOrder_133 : decode cX10_layOrder 133 = .ok (.iload 8, 2) := by decide +kernel
theorem dX10_layOrder_135 : decode cX10_layOrder 135 = .ok (.iconst 1, 1) := by decide +kernel
theorem dX10_layOrder_136 : decode cX10_layOrder 136 = .ok (.iadd, 1) := by decide +kernel
theorem dX10_layOrder_137 : decode cX10_layOrder 137 = .ok (.iaload, 1) := by decide +kernel
theorem dX10_layOrder_138 : decode cX10_layOrder 138 = .ok (.iastore, 1) := by decide +kernel
theorem dX10_layOrder_139 : decode cX10_layOrder 139 = .ok (.iinc 8 1, 3) := by decide +kernel
theorem dX10_layOrder_142 : decode cX10_layOrder 142 = .ok (.goto (-25), 3) := by decide +kernel
theorem dX10_layOrder_145 : decode cX10_layOrder 145 = .ok (.iinc 6 1, 3) := by decide +kernel
theorem dX10_layOrder_148 : decode cX10_layOrder 148 = .ok (.goto (-78), 3) := by decide +kernel
theorem dX10_layOrder_151 : decode cX10_layOrder 151 = .ok (.return_, 1) := by decide +kernel
theorem dX10_findOptimal_0 : decode cX10_findOptimal 0 = .ok (.iconst 1, 1) := by decide +kernel
theorem dX10_findOptimal_1 : decode cX10_findOptimal 1 = .ok (.istore_n 1, 1) := by decide +kernel
theorem dX10_findOptimal_2 : decode cX10_findOptimal 2 = .ok (.iconst 2, 1) := by decide +kernel
theorem dX10_findOptimal_3 : decode cX10_findOptimal 3 = .ok (.istore_n 2, 1) := by decide +kernel
theorem dX10_findOptimal_4 : decode cX10_findOptimal 4 = .ok (.iload_n 2, 1) := by decide +kernel
theorem dX10_findOptimal_5 : decode cX10_findOptimal 5 = .ok (.aload_n 0, 1) := by decide +kernel
theorem dX10_findOptimal_6 : decode cX10_findOptimal 6 = .ok (.getfield 16, 3) := by decide +kernel
theorem dX10_findOptimal_9 : decode cX10_findOptimal 9 = .ok (.iconst 0, 1) := by decide +kernel
theorem dX10_findOptimal_10 : decode cX10_findOptimal 10 = .ok (.iaload, 1) := by decide +kernel
theorem dX10_findOptimal_11 : decode cX10_findOptimal 11 = .ok (.if_icmp .ge 13, 3) := by decide +kernel
theorem dX10_findOptimal_14 : decode cX10_findOptimal 14 = .ok (.iload_n 1, 1) := by decide +kernel
theorem dX10_findOptimal_15 : decode cX10_findOptimal 15 = .ok (.iload_n 2, 1) := by decide +kernel
theorem dX10_findOptimal_16 : decode cX10_findOptimal 16 = .ok (.imul, 1) := by decide +kernel
theorem dX10_findOptimal_17 : decode cX10_findOptimal 17 = .ok (.istore_n 1, 1) := by decide +kernel
theorem dX10_findOptimal_18 : decode cX10_findOptimal 18 = .ok (.iinc 2 1, 3) := by decide +kernel
theorem dX10_findOptimal_21 : decode cX10_findOptimal 21 = .ok (.goto (-17), 3) := by decide +kernel
theorem dX10_findOptimal_24 : decode cX10_findOptimal 24 = .ok (.bipush (-9), 2) := by decide +kernel
theorem dX10_findOptimal_26 : decode cX10_findOptimal 26 = .ok (.istore_n 2, 1) := by decide +kernel
theorem dX10_findOptimal_27 : decode cX10_findOptimal 27 = .ok (.iconst 0, 1) := by decide +kernel
theorem dX10_findOptimal_28 : decode cX10_findOptimal 28 = .ok (.istore_n 3, 1) := by decide +kernel
theorem dX10_findOptimal_29 : decode cX10_findOptimal 29 = .ok (.iload_n 3, 1) := by decide +kernel
theorem dX10_findOptimal_30 : decode cX10_findOptimal 30 = .ok (.iload_n 1, 1) := by decide +kernel
theorem dX10_findOptimal_31 : decode cX10_findOptimal 31 = .ok (.if_icmp .ge 51, 3) := by decide +kernel
theorem dX10_findOptimal_34 : decode cX10_findOptimal 34 = .ok (.aload_n 0, 1) := by decide +kernel
theorem dX10_findOptimal_35 : decode cX10_findOptimal 35 = .ok (.iload_n 3, 1) := by decide +kernel
theorem dX10_findOptimal_36 : decode cX10_findOptimal 36 = .ok (.iload_n 1, 1) := by decide +kernel
theorem dX10_findOptimal_37 : decode cX10_findOptimal 37 = .ok (.invokevirtual 157, 3) := by decide +kernel
theorem dX10_findOptimal_40 : decode cX10_findOptimal 40 = .ok (.aload_n 0, 1) := by decide +kernel
theorem dX10_findOptimal_41 : decode cX10_findOptimal 41 = .ok (.aload_n 0, 1) := by decide +kernel
theorem dX10_findOptimal_42 : decode cX10_findOptimal 42 = .ok (.getfield 19, 3) := by decide +kernel
theorem dX10_findOptimal_45 : decode cX10_findOptimal 45 = .ok (.invokevirtual 140, 3) := by decide +kernel
theorem dX10_findOptimal_48 : decode cX10_findOptimal 48 = .ok (.istore 4, 2) := by decide +kernel
theorem dX10_findOptimal_50 : decode cX10_findOptimal 50 = .ok (.iload_n 2, 1) := by decide +kernel
theorem dX10_findOptimal_51 : decode cX10_findOptimal 51 = .ok (.bipush (-9), 2) := by decide +kernel
theorem dX10_findOptimal_53 : decode cX10_findOptimal 53 = .ok (.if_icmp .eq 9, 3) := by decide +kernel
theorem dX10_findOptimal_56 : decode cX10_findOptimal 56 = .ok (.iload 4, 2) := by decide +kernel
theorem dX10_findOptimal_58 : decode cX10_findOptimal 58 = .ok (.iload_n 2, 1) := by decide +kernel
theorem dX10_findOptimal_59 : decode cX10_findOptimal 59 = .ok (.if_icmp .ge 17, 3) := by decide +kernel
theorem dX10_findOptimal_62 : decode cX10_findOptimal 62 = .ok (.iload 4, 2) := by decide +kernel
theorem dX10_findOptimal_64 : decode cX10_findOptimal 64 = .ok (.istore_n 2, 1) := by decide +kernel
theorem dX10_findOptimal_65 : decode cX10_findOptimal 65 = .ok (.aload_n 0, 1) := by decide +kernel
theorem dX10_findOptimal_66 : decode cX10_findOptimal 66 = .ok (.getfield 19, 3) := by decide +kernel
theorem dX10_findOptimal_69 : decode cX10_findOptimal 69 = .ok (.aload_n 0, 1) := by decide +kernel
theorem dX10_findOptimal_70 : decode cX10_findOptimal 70 = .ok (.getfield 22, 3) := by decide +kernel
theorem dX10_findOptimal_73 : decode cX10_findOptimal 73 = .ok (.invokestatic 100, 3) := by decide +kernel
theorem dX10_findOptimal_76 : decode cX10_findOptimal 76 = .ok (.iinc 3 1, 3) := by decide +kernel
theorem dX10_findOptimal_79 : decode cX10_findOptimal 79 = .ok (.goto (-50), 3) := by decide +kernel
theorem dX10_findOptimal_82 : decode cX10_findOptimal 82 = .ok (.iload_n 2, 1) := by decide +kernel
theorem dX10_findOptimal_83 : decode cX10_findOptimal 83 = .ok (.ireturn, 1) := by decide +kernel
theorem dX10_optimalCost_0 : decode cX10_optimalCost 0 = .ok (.aload_n 0, 1) := by decide +kernel
theorem dX10_optimalCost_1 : decode cX10_optimalCost 1 = .ok (.invokevirtual 161, 3) := by decide +kernel
theorem dX10_optimalCost_4 : decode cX10_optimalCost 4 = .ok (.ireturn, 1) := by decide +kernel
theorem dX10_orderOptimally_0 : decode cX10_orderOptimally 0 = .ok (.aload_n 0, 1) := by decide +kernel
theorem dX10_orderOptimally_1 : decode cX10_orderOptimally 1 = .ok (.invokevirtual 161, 3) := by decide +kernel
theorem dX10_orderOptimally_4 : decode cX10_orderOptimally 4 = .ok (.istore_n 1, 1) := by decide +kernel
theorem dX10_orderOptimally_5 : decode cX10_orderOptimally 5 = .ok (.aload_n 0, 1) := by decide +kernel
theorem dX10_orderOptimally_6 : decode cX10_orderOptimally 6 = .ok (.invokevirtual 150, 3) := by decide +kernel
theorem dX10_orderOptimally_9 : decode cX10_orderOptimally 9 = .ok (.aload_n 0, 1) := by decide +kernel
theorem dX10_orderOptimally_10 : decode cX10_orderOptimally 10 = .ok (.getfield 22, 3) := by decide +kernel
theorem dX10_orderOptimally_13 : decode cX10_orderOptimally 13 = .ok (.aload_n 0, 1) := by decide +kernel
theorem dX10_orderOptimally_14 : decode cX10_orderOptimally 14 = .ok (.getfield 16, 3) := by decide +kernel
theorem dX10_orderOptimally_17 : decode cX10_orderOptimally 17 = .ok (.invokestatic 100, 3) := by decide +kernel
theorem dX10_orderOptimally_20 : decode cX10_orderOptimally 20 = .ok (.iload_n 1, 1) := by decide +kernel
theorem dX10_orderOptimally_21 : decode cX10_orderOptimally 21 = .ok (.ireturn, 1) := by decide +kernel
theorem dX10_rangeError_0 : decode cX10_rangeError 0 = .ok (.aload_n 0, 1) := by decide +kernel
theorem dX10_rangeError_1 : decode cX10_rangeError 1 = .ok (.iload_n 2, 1) := by decide +kernel
theorem dX10_rangeError_2 : decode cX10_rangeError 2 = .ok (.invokevirtual 137, 3) := by decide +kernel
theorem dX10_rangeError_5 : decode cX10_rangeError 5 = .ok (.ifCond .eq 11, 3) := by decide +kernel
theorem dX10_rangeError_8 : decode cX10_rangeError 8 = .ok (.aload_n 0, 1) := by decide +kernel
theorem dX10_rangeError_9 : decode cX10_rangeError 9 = .ok (.iload_n 3, 1) := by decide +kernel
theorem dX10_rangeError_10 : decode cX10_rangeError 10 = .ok (.invokevirtual 137, 3) := by decide +kernel
theorem dX10_rangeError_13 : decode cX10_rangeError 13 = .ok (.ifCond .ne 5, 3) := by decide +kernel
theorem dX10_rangeError_16 : decode cX10_rangeError 16 = .ok (.iconst (-1), 1) := by decide +kernel
theorem dX10_rangeError_17 : decode cX10_rangeError 17 = .ok (.ireturn, 1) := by decide +kernel
theorem dX10_rangeError_18 : decode cX10_rangeError 18 = .ok (.iload_n 2, 1) := by decide +kernel
theorem dX10_rangeError_19 : decode cX10_rangeError 19 = .ok (.ifCond .eq 15, 3) := by decide +kernel
theorem dX10_rangeError_22 : decode cX10_rangeError 22 = .ok (.iload_n 2, 1) := by decide +kernel
theorem dX10_rangeError_23 : decode cX10_rangeError 23 = .ok (.iload_n 3, 1) := by decide +kernel
theorem dX10_rangeError_24 : decode cX10_rangeError 24 = .ok (.if_icmp .gt 10, 3) := by decide +kernel
theorem dX10_rangeError_27 : decode cX10_rangeError 27 = .ok (.iload_n 3, 1) := by decide +kernel
theorem dX10_rangeError_28 : decode cX10_rangeError 28 = .ok (.aload_n 1, 1) := by decide +kernel
theorem dX10_rangeError_29 : decode cX10_rangeError 29 = .ok (.iconst 0, 1) := by decide +kernel
theorem dX10_rangeError_30 : decode cX10_rangeError 30 = .ok (.iaload, 1) := by decide +kernel
theorem dX10_rangeError_31 : decode cX10_rangeError 31 = .ok (.if_icmp .lt 8, 3) := by decide +kernel
theorem dX10_rangeError_34 : decode cX10_rangeError 34 = .ok (.bipush (-3), 2) := by decide +kernel
theorem dX10_rangeError_36 : decode cX10_rangeError 36 = .ok (.goto 4, 3) := by decide +kernel
theorem dX10_rangeError_39 : decode cX10_rangeError 39 = .ok (.iconst 0, 1) := by decide +kernel
theorem dX10_rangeError_40 : decode cX10_rangeError 40 = .ok (.ireturn, 1) := by decide +kernel
theorem dX10_layRotated_0 : decode cX10_layRotated 0 = .ok (.aload_n 1, 1) := by decide +kernel
theorem dX10_layRotated_1 : decode cX10_layRotated 1 = .ok (.aload_n 0, 1) := by decide +kernel
theorem dX10_layRotated_2 : decode cX10_layRotated 2 = .ok (.getfield 19, 3) := by decide +kernel
theorem dX10_layRotated_5 : decode cX10_layRotated 5 = .ok (.invokestatic 100, 3) := by decide +kernel
theorem dX10_layRotated_8 : decode cX10_layRotated 8 = .ok (.iload_n 3, 1) := by decide +kernel
theorem dX10_layRotated_9 : decode cX10_layRotated 9 = .ok (.iload_n 2, 1) := by decide +kernel
theorem dX10_layRotated_10 : decode cX10_layRotated 10 = .ok (.isub, 1) := by decide +kernel
theorem dX10_layRotated_11 : decode cX10_layRotated 11 = .ok (.iconst 1, 1) := by decide +kernel
theorem dX10_layRotated_12 : decode cX10_layRotated 12 = .ok (.iadd, 1) := by decide +kernel
theorem dX10_layRotated_13 : decode cX10_layRotated 13 = .ok (.istore 5, 2) := by decide +kernel
theorem dX10_layRotated_15 : decode cX10_layRotated 15 = .ok (.iconst 0, 1) := by decide +kernel
theorem dX10_layRotated_16 : decode cX10_layRotated 16 = .ok (.istore 6, 2) := by decide +kernel
theorem dX10_layRotated_18 : decode cX10_layRotated 18 = .ok (.iload 6, 2) := by decide +kernel
theorem dX10_layRotated_20 : decode cX10_layRotated 20 = .ok (.iload 5, 2) := by decide +kernel
theorem dX10_layRotated_22 : decode cX10_layRotated 22 = .ok (.if_icmp .ge 37, 3) := by decide +kernel
theorem dX10_layRotated_25 : decode cX10_layRotated 25 = .ok (.aload_n 0, 1) := by decide +kernel
theorem dX10_layRotated_26 : decode cX10_layRotated 26 = .ok (.getfield 19, 3) := by decide +kernel
theorem dX10_layRotated_29 : decode cX10_layRotated 29 = .ok (.iconst 2, 1) := by decide +kernel
theorem dX10_layRotated_30 : decode cX10_layRotated 30 = .ok (.iload_n 2, 1) := by decide +kernel
theorem dX10_layRotated_31 : decode cX10_layRotated 31 = .ok (.iadd, 1) := by decide +kernel
theorem dX10_layRotated_32 : decode cX10_layRotated 32 = .ok (.iload 6, 2) := by decide +kernel
theorem dX10_layRotated_34 : decode cX10_layRotated 34 = .ok (.iload 4, 2) := by decide +kernel
theorem dX10_layRotated_36 : decode cX10_layRotated 36 = .ok (.isub, 1) := by decide +kernel
theorem dX10_layRotated_37 : decode cX10_layRotated 37 = .ok (.iload 5, 2) := by decide +kernel
theorem dX10_layRotated_39 : decode cX10_layRotated 39 = .ok (.iadd, 1) := by decide +kernel
theorem dX10_layRotated_40 : decode cX10_layRotated 40 = .ok (.iload 5, 2) := by decide +kernel
theorem dX10_layRotated_42 : decode cX10_layRotated 42 = .ok (.irem, 1) := by decide +kernel
theorem dX10_layRotated_43 : decode cX10_layRotated 43 = .ok (.iadd, 1) := by decide +kernel
theorem dX10_layRotated_44 : decode cX10_layRotated 44 = .ok (.aload_n 1, 1) := by decide +kernel
theorem dX10_layRotated_45 : decode cX10_layRotated 45 = .ok (.iconst 2, 1) := by decide +kernel
theorem dX10_layRotated_46 : decode cX10_layRotated 46 = .ok (.iload_n 2, 1) := by decide +kernel
theorem dX10_layRotated_47 : decode cX10_layRotated 47 = .ok (.iadd, 1) := by decide +kernel
theorem dX10_layRotated_48 : decode cX10_layRotated 48 = .ok (.iload 6, 2) := by decide +kernel
theorem dX10_layRotated_50 : decode cX10_layRotated 50 = .ok (.iadd, 1) := by decide +kernel
theorem dX10_layRotated_51 : decode cX10_layRotated 51 = .ok (.iaload, 1) := by decide +kernel
theorem dX10_layRotated_52 : decode cX10_layRotated 52 = .ok (.iastore, 1) := by decide +kernel
theorem dX10_layRotated_53 : decode cX10_layRotated 53 = .ok (.iinc 6 1, 3) := by decide +kernel
theorem dX10_layRotated_56 : decode cX10_layRotated 56 = .ok (.goto (-38), 3) := by decide +kernel
theorem dX10_layRotated_59 : decode cX10_layRotated 59 = .ok (.return_, 1) := by decide +kernel
theorem dX10_bestRotation_0 : decode cX10_bestRotation 0 = .ok (.aload_n 0, 1) := by decide +kernel
theorem dX10_bestRotation_1 : decode cX10_bestRotation 1 = .ok (.aload_n 0, 1) := by decide +kernel
theorem dX10_bestRotation_2 : decode cX10_bestRotation 2 = .ok (.getfield 16, 3) := by decide +kernel
theorem dX10_bestRotation_5 : decode cX10_bestRotation 5 = .ok (.iload_n 1, 1) := by decide +kernel
theorem dX10_bestRotation_6 : decode cX10_bestRotation 6 = .ok (.iload_n 2, 1) := by decide +kernel
theorem dX10_bestRotation_7 : decode cX10_bestRotation 7 = .ok (.invokevirtual 164, 3) := by decide +kernel
theorem dX10_bestRotation_10 : decode cX10_bestRotation 10 = .ok (.istore_n 3, 1) := by decide +kernel
theorem dX10_bestRotation_11 : decode cX10_bestRotation 11 = .ok (.iload_n 3, 1) := by decide +kernel
theorem dX10_bestRotation_12 : decode cX10_bestRotation 12 = .ok (.ifCond .eq 5, 3) := by decide +kernel
theorem dX10_bestRotation_15 : decode cX10_bestRotation 15 = .ok (.iload_n 3, 1) := by decide +kernel
theorem dX10_bestRotation_16 : decode cX10_bestRotation 16 = .ok (.ireturn, 1) := by decide +kernel
theorem dX10_bestRotation_17 : decode cX10_bestRotation 17 = .ok (.iconst 0, 1) := by decide +kernel
theorem dX10_bestRotation_18 : decode cX10_bestRotation 18 = .ok (.istore 4, 2) := by decide +kernel
theorem dX10_bestRotation_20 : decode cX10_bestRotation 20 = .ok (.aload_n 0, 1) := by decide +kernel
theorem dX10_bestRotation_21 : decode cX10_bestRotation 21 = .ok (.aload_n 0, 1) := by decide +kernel
theorem dX10_bestRotation_22 : decode cX10_bestRotation 22 = .ok (.getfield 16, 3) := by decide +kernel
theorem dX10_bestRotation_25 : decode cX10_bestRotation 25 = .ok (.invokevirtual 140, 3) := by decide +kernel
theorem dX10_bestRotation_28 : decode cX10_bestRotation 28 = .ok (.istore 5, 2) := by decide +kernel
theorem dX10_bestRotation_30 : decode cX10_bestRotation 30 = .ok (.iconst 1, 1) := by decide +kernel
theorem dX10_bestRotation_31 : decode cX10_bestRotation 31 = .ok (.istore 6, 2) := by decide +kernel
theorem dX10_bestRotation_33 : decode cX10_bestRotation 33 = .ok (.iload 6, 2) := by decide +kernel
theorem dX10_bestRotation_35 : decode cX10_bestRotation 35 = .ok (.iload_n 2, 1) := by decide +kernel
theorem dX10_bestRotation_36 : decode cX10_bestRotation 36 = .ok (.iload_n 1, 1) := by decide +kernel
theorem dX10_bestRotation_37 : decode cX10_bestRotation 37 = .ok (.isub, 1) := by decide +kernel
theorem dX10_bestRotation_38 : decode cX10_bestRotation 38 = .ok (.if_icmp .gt 63, 3) := by decide +kernel
theorem dX10_bestRotation_41 : decode cX10_bestRotation 41 = .ok (.aload_n 0, 1) := by decide +kernel
theorem dX10_bestRotation_42 : decode cX10_bestRotation 42 = .ok (.aload_n 0, 1) := by decide +kernel
theorem dX10_bestRotation_43 : decode cX10_bestRotation 43 = .ok (.getfield 16, 3) := by decide +kernel
theorem dX10_bestRotation_46 : decode cX10_bestRotation 46 = .ok (.iload_n 1, 1) := by decide +kernel
theorem dX10_bestRotation_47 : decode cX10_bestRotation 47 = .ok (.iload_n 2, 1) := by decide +kernel
theorem dX10_bestRotation_48 : decode cX10_bestRotation 48 = .ok (.iload 6, 2) := by decide +kernel
theorem dX10_bestRotation_50 : decode cX10_bestRotation 50 = .ok (.invokevirtual 167, 3) := by decide +kernel
theorem dX10_bestRotation_53 : decode cX10_bestRotation 53 = .ok (.aload_n 0, 1) := by decide +kernel
theorem dX10_bestRotation_54 : decode cX10_bestRotation 54 = .ok (.aload_n 0, 1) := by decide +kernel
theorem dX10_bestRotation_55 : decode cX10_bestRotation 55 = .ok (.getfield 19, 3) := by decide +kernel
theorem dX10_bestRotation_58 : decode cX10_bestRotation 58 = .ok (.invokevirtual 140, 3) := by decide +kernel
theorem dX10_bestRotation_61 : decode cX10_bestRotation 61 = .ok (.istore 7, 2) := by decide +kernel
theorem dX10_bestRotation_63 : decode cX10_bestRotation 63 = .ok (.iload 7, 2) := by decide +kernel
theorem dX10_bestRotation_65 : decode cX10_bestRotation 65 = .ok (.iload 5, 2) := by decide +kernel
theorem dX10_bestRotation_67 : decode cX10_bestRotation 67 = .ok (.if_icmp .ge 8, 3) := by decide +kernel
theorem dX10_bestRotation_70 : decode cX10_bestRotation 70 = .ok (.iload 6, 2) := by decide +kernel
theorem dX10_bestRotation_72 : decode cX10_bestRotation 72 = .ok (.goto 5, 3) := by decide +kernel
theorem dX10_bestRotation_75 : decode cX10_bestRotation 75 = .ok (.iload 4, 2) := by decide +kernel
theorem dX10_bestRotation_77 : decode cX10_bestRotation 77 = .ok (.istore 4, 2) := by decide +kernel
theorem dX10_bestRotation_79 : decode cX10_bestRotation 79 = .ok (.iload 7, 2) := by decide +kernel
theorem dX10_bestRotation_81 : decode cX10_bestRotation 81 = .ok (.iload 5, 2) := by decide +kernel
theorem dX10_bestRotation_83 : decode cX10_bestRotation 83 = .ok (.if_icmp .ge 8, 3) := by decide +kernel
theorem dX10_bestRotation_86 : decode cX10_bestRotation 86 = .ok (.iload 7, 2) := by decide +kernel
theorem dX10_bestRotation_88 : decode cX10_bestRotation 88 = .ok (.goto 5, 3) := by decide +kernel
theorem dX10_bestRotation_91 : decode cX10_bestRotation 91 = .ok (.iload 5, 2) := by decide +kernel
theorem dX10_bestRotation_93 : decode cX10_bestRotation 93 = .ok (.istore 5, 2) := by decide +kernel
theorem dX10_bestRotation_95 : decode cX10_bestRotation 95 = .ok (.iinc 6 1, 3) := by decide +kernel
theorem dX10_bestRotation_98 : decode cX10_bestRotation 98 = .ok (.goto (-65), 3) := by decide +kernel
theorem dX10_bestRotation_101 : decode cX10_bestRotation 101 = .ok (.iload 4, 2) := by decide +kernel
theorem dX10_bestRotation_103 : decode cX10_bestRotation 103 = .ok (.ireturn, 1) := by decide +kernel
theorem dX10_note_0 : decode cX10_note 0 = .ok (.iconst 0, 1) := by decide +kernel
theorem dX10_note_1 : decode cX10_note 1 = .ok (.istore_n 1, 1) := by decide +kernel
theorem dX10_note_2 : decode cX10_note 2 = .ok (.iload_n 1, 1) := by decide +kernel
theorem dX10_note_3 : decode cX10_note 3 = .ok (.bipush 50, 2) := by decide +kernel
theorem dX10_note_5 : decode cX10_note 5 = .ok (.if_icmp .ge 29, 3) := by decide +kernel
theorem dX10_note_8 : decode cX10_note 8 = .ok (.aload_n 0, 1) := by decide +kernel
theorem dX10_note_9 : decode cX10_note 9 = .ok (.getfield 25, 3) := by decide +kernel
theorem dX10_note_12 : decode cX10_note 12 = .ok (.bipush 50, 2) := by decide +kernel
theorem dX10_note_14 : decode cX10_note 14 = .ok (.aload_n 0, 1) := by decide +kernel
theorem dX10_note_15 : decode cX10_note 15 = .ok (.getfield 171, 3) := by decide +kernel
theorem dX10_note_18 : decode cX10_note 18 = .ok (.imul, 1) := by decide +kernel
theorem dX10_note_19 : decode cX10_note 19 = .ok (.iload_n 1, 1) := by decide +kernel
theorem dX10_note_20 : decode cX10_note 20 = .ok (.iadd, 1) := by decide +kernel
theorem dX10_note_21 : decode cX10_note 21 = .ok (.aload_n 0, 1) := by decide +kernel
theorem dX10_note_22 : decode cX10_note 22 = .ok (.getfield 16, 3) := by decide +kernel
theorem dX10_note_25 : decode cX10_note 25 = .ok (.iload_n 1, 1) := by decide +kernel
theorem dX10_note_26 : decode cX10_note 26 = .ok (.iaload, 1) := by decide +kernel
theorem dX10_note_27 : decode cX10_note 27 = .ok (.iastore, 1) := by decide +kernel
theorem dX10_note_28 : decode cX10_note 28 = .ok (.iinc 1 1, 3) := by decide +kernel
theorem dX10_note_31 : decode cX10_note 31 = .ok (.goto (-29), 3) := by decide +kernel
theorem dX10_note_34 : decode cX10_note 34 = .ok (.aload_n 0, 1) := by decide +kernel
theorem dX10_note_35 : decode cX10_note 35 = .ok (.aload_n 0, 1) := by decide +kernel
theorem dX10_note_36 : decode cX10_note 36 = .ok (.getfield 171, 3) := by decide +kernel
theorem dX10_note_39 : decode cX10_note 39 = .ok (.iconst 1, 1) := by decide +kernel
theorem dX10_note_40 : decode cX10_note 40 = .ok (.iadd, 1) := by decide +kernel
theorem dX10_note_41 : decode cX10_note 41 = .ok (.bipush 14, 2) := by decide +kernel
theorem dX10_note_43 : decode cX10_note 43 = .ok (.irem, 1) := by decide +kernel
theorem dX10_note_44 : decode cX10_note 44 = .ok (.putfield 171, 3) := by decide +kernel
theorem dX10_note_47 : decode cX10_note 47 = .ok (.aload_n 0, 1) := by decide +kernel
theorem dX10_note_48 : decode cX10_note 48 = .ok (.aload_n 0, 1) := by decide +kernel
theorem dX10_note_49 : decode cX10_note 49 = .ok (.getfield 104, 3) := by decide +kernel
theorem dX10_note_52 : decode cX10_note 52 = .ok (.bipush 14, 2) := by decide +kernel
theorem dX10_note_54 : decode cX10_note 54 = .ok (.if_icmp .ge 12, 3) := by decide +kernel
theorem dX10_note_57 : decode cX10_note 57 = .ok (.aload_n 0, 1) := by decide +kernel
theorem dX10_note_58 : decode cX10_note 58 = .ok (.getfield 104, 3) := by decide +kernel
theorem dX10_note_61 : decode cX10_note 61 = .ok (.iconst 1, 1) := by decide +kernel
theorem dX10_note_62 : decode cX10_note 62 = .ok (.iadd, 1) := by decide +kernel
theorem dX10_note_63 : decode cX10_note 63 = .ok (.goto 5, 3) := by decide +kernel
theorem dX10_note_66 : decode cX10_note 66 = .ok (.bipush 14, 2) := by decide +kernel
theorem dX10_note_68 : decode cX10_note 68 = .ok (.putfield 104, 3) := by decide +kernel
theorem dX10_note_71 : decode cX10_note 71 = .ok (.return_, 1) := by decide +kernel
theorem dX10_swapError_0 : decode cX10_swapError 0 = .ok (.aload_n 0, 1) := by decide +kernel
theorem dX10_swapError_1 : decode cX10_swapError 1 = .ok (.iload_n 1, 1) := by decide +kernel
theorem dX10_swapError_2 : decode cX10_swapError 2 = .ok (.invokevirtual 137, 3) := by decide +kernel
theorem dX10_swapError_5 : decode cX10_swapError 5 = .ok (.ifCond .eq 11, 3) := by decide +kernel
theorem dX10_swapError_8 : decode cX10_swapError 8 = .ok (.aload_n 0, 1) := by decide +kernel
theorem dX10_swapError_9 : decode cX10_swapError 9 = .ok (.iload_n 2, 1) := by decide +kernel
theorem dX10_swapError_10 : decode cX10_swapError 10 = .ok (.invokevirtual 137, 3) := by decide +kernel
theorem dX10_swapError_13 : decode cX10_swapError 13 = .ok (.ifCond .ne 5, 3) := by decide +kernel
theorem dX10_swapError_16 : decode cX10_swapError 16 = .ok (.iconst (-1), 1) := by decide +kernel
theorem dX10_swapError_17 : decode cX10_swapError 17 = .ok (.ireturn, 1) := by decide +kernel
theorem dX10_swapError_18 : decode cX10_swapError 18 = .ok (.iload_n 1, 1) := by decide +kernel
theorem dX10_swapError_19 : decode cX10_swapError 19 = .ok (.ifCond .eq 7, 3) := by decide +kernel
theorem dX10_swapError_22 : decode cX10_swapError 22 = .ok (.iload_n 2, 1) := by decide +kernel
theorem dX10_swapError_23 : decode cX10_swapError 23 = .ok (.ifCond .ne 8, 3) := by decide +kernel
theorem dX10_swapError_26 : decode cX10_swapError 26 = .ok (.bipush (-3), 2) := by decide +kernel
theorem dX10_swapError_28 : decode cX10_swapError 28 = .ok (.goto 4, 3) := by decide +kernel
theorem dX10_swapError_31 : decode cX10_swapError 31 = .ok (.iconst 0, 1) := by decide +kernel
theorem dX10_swapError_32 : decode cX10_swapError 32 = .ok (.ireturn, 1) := by decide +kernel
theorem dX10_swapIn_0 : decode cX10_swapIn 0 = .ok (.aload_n 0, 1) := by decide +kernel
theorem dX10_swapIn_1 : decode cX10_swapIn 1 = .ok (.iconst 2, 1) := by decide +kernel
theorem dX10_swapIn_2 : decode cX10_swapIn 2 = .ok (.iload_n 1, 1) := by decide +kernel
theorem dX10_swapIn_3 : decode cX10_swapIn 3 = .ok (.iadd, 1) := by decide +kernel
theorem dX10_swapIn_4 : decode cX10_swapIn 4 = .ok (.iaload, 1) := by decide +kernel
theorem dX10_swapIn_5 : decode cX10_swapIn 5 = .ok (.istore_n 3, 1) := by decide +kernel
theorem dX10_swapIn_6 : decode cX10_swapIn 6 = .ok (.aload_n 0, 1) := by decide +kernel
theorem dX10_swapIn_7 : decode cX10_swapIn 7 = .ok (.iconst 2, 1) := by decide +kernel
theorem dX10_swapIn_8 : decode cX10_swapIn 8 = .ok (.iload_n 1, 1) := by decide +kernel
theorem dX10_swapIn_9 : decode cX10_swapIn 9 = .ok (.iadd, 1) := by decide +kernel
theorem dX10_swapIn_10 : decode cX10_swapIn 10 = .ok (.aload_n 0, 1) := by decide +kernel
theorem dX10_swapIn_11 : decode cX10_swapIn 11 = .ok (.iconst 2, 1) := by decide +kernel
theorem dX10_swapIn_12 : decode cX10_swapIn 12 = .ok (.iload_n 2, 1) := by decide +kernel
theorem dX10_swapIn_13 : decode cX10_swapIn 13 = .ok (.iadd, 1) := by decide +kernel
theorem dX10_swapIn_14 : decode cX10_swapIn 14 = .ok (.iaload, 1) := by decide +kernel
theorem dX10_swapIn_15 : decode cX10_swapIn 15 = .ok (.iastore, 1) := by decide +kernel
theorem dX10_swapIn_16 : decode cX10_swapIn 16 = .ok (.aload_n 0, 1) := by decide +kernel
theorem dX10_swapIn_17 : decode cX10_swapIn 17 = .ok (.iconst 2, 1) := by decide +kernel
theorem dX10_swapIn_18 : decode cX10_swapIn 18 = .ok (.iload_n 2, 1) := by decide +kernel
theorem dX10_swapIn_19 : decode cX10_swapIn 19 = .ok (.iadd, 1) := by decide +kernel
theorem dX10_swapIn_20 : decode cX10_swapIn 20 = .ok (.iload_n 3, 1) := by decide +kernel
theorem dX10_swapIn_21 : decode cX10_swapIn 21 = .ok (.iastore, 1) := by decide +kernel
theorem dX10_swapIn_22 : decode cX10_swapIn 22 = .ok (.return_, 1) := by decide +kernel
theorem dX10_swap_0 : decode cX10_swap 0 = .ok (.aload_n 0, 1) := by decide +kernel
theorem dX10_swap_1 : decode cX10_swap 1 = .ok (.iload_n 1, 1) := by decide +kernel
theorem dX10_swap_2 : decode cX10_swap 2 = .ok (.iload_n 2, 1) := by decide +kernel
theorem dX10_swap_3 : decode cX10_swap 3 = .ok (.invokevirtual 174, 3) := by decide +kernel
theorem dX10_swap_6 : decode cX10_swap 6 = .ok (.istore_n 3, 1) := by decide +kernel
theorem dX10_swap_7 : decode cX10_swap 7 = .ok (.iload_n 3, 1) := by decide +kernel
theorem dX10_swap_8 : decode cX10_swap 8 = .ok (.ifCond .eq 5, 3) := by decide +kernel
theorem dX10_swap_11 : decode cX10_swap 11 = .ok (.iload_n 3, 1) := by decide +kernel
theorem dX10_swap_12 : decode cX10_swap 12 = .ok (.ireturn, 1) := by decide +kernel
theorem dX10_swap_13 : decode cX10_swap 13 = .ok (.aload_n 0, 1) := by decide +kernel
theorem dX10_swap_14 : decode cX10_swap 14 = .ok (.invokevirtual 150, 3) := by decide +kernel
theorem dX10_swap_17 : decode cX10_swap 17 = .ok (.aload_n 0, 1) := by decide +kernel
theorem dX10_swap_18 : decode cX10_swap 18 = .ok (.getfield 16, 3) := by decide +kernel
theorem dX10_swap_21 : decode cX10_swap 21 = .ok (.iload_n 1, 1) := by decide +kernel
theorem dX10_swap_22 : decode cX10_swap 22 = .ok (.iload_n 2, 1) := by decide +kernel
theorem dX10_swap_23 : decode cX10_swap 23 = .ok (.invokestatic 177, 3) := by decide +kernel
theorem dX10_swap_26 : decode cX10_swap 26 = .ok (.aload_n 0, 1) := by decide +kernel
theorem dX10_swap_27 : decode cX10_swap 27 = .ok (.aload_n 0, 1) := by decide +kernel
theorem dX10_swap_28 : decode cX10_swap 28 = .ok (.getfield 16, 3) := by decide +kernel
theorem dX10_swap_31 : decode cX10_swap 31 = .ok (.invokevirtual 140, 3) := by decide +kernel
theorem dX10_swap_34 : decode cX10_swap 34 = .ok (.ireturn, 1) := by decide +kernel
theorem dX10_rotateIn_0 : decode cX10_rotateIn 0 = .ok (.aload_n 0, 1) := by decide +kernel
theorem dX10_rotateIn_1 : decode cX10_rotateIn 1 = .ok (.iconst 2, 1) := by decide +kernel
theorem dX10_rotateIn_2 : decode cX10_rotateIn 2 = .ok (.iload_n 1, 1) := by decide +kernel
theorem dX10_rotateIn_3 : decode cX10_rotateIn 3 = .ok (.iadd, 1) := by decide +kernel
theorem dX10_rotateIn_4 : decode cX10_rotateIn 4 = .ok (.iaload, 1) := by decide +kernel
theorem dX10_rotateIn_5 : decode cX10_rotateIn 5 = .ok (.istore_n 3, 1) := by decide +kernel
theorem dX10_rotateIn_6 : decode cX10_rotateIn 6 = .ok (.iload_n 1, 1) := by decide +kernel
theorem dX10_rotateIn_7 : decode cX10_rotateIn 7 = .ok (.istore 4, 2) := by decide +kernel
theorem dX10_rotateIn_9 : decode cX10_rotateIn 9 = .ok (.iload 4, 2) := by decide +kernel
theorem dX10_rotateIn_11 : decode cX10_rotateIn 11 = .ok (.iload_n 2, 1) := by decide +kernel
theorem dX10_rotateIn_12 : decode cX10_rotateIn 12 = .ok (.if_icmp .ge 23, 3) := by decide +kernel
theorem dX10_rotateIn_15 : decode cX10_rotateIn 15 = .ok (.aload_n 0, 1) := by decide +kernel
theorem dX10_rotateIn_16 : decode cX10_rotateIn 16 = .ok (.iconst 2, 1) := by decide +kernel
theorem dX10_rotateIn_17 : decode cX10_rotateIn 17 = .ok (.iload 4, 2) := by decide +kernel
theorem dX10_rotateIn_19 : decode cX10_rotateIn 19 = .ok (.iadd, 1) := by decide +kernel
theorem dX10_rotateIn_20 : decode cX10_rotateIn 20 = .ok (.aload_n 0, 1) := by decide +kernel
theorem dX10_rotateIn_21 : decode cX10_rotateIn 21 = .ok (.iconst 2, 1) := by decide +kernel
theorem dX10_rotateIn_22 : decode cX10_rotateIn 22 = .ok (.iload 4, 2) := by decide +kernel
theorem dX10_rotateIn_24 : decode cX10_rotateIn 24 = .ok (.iadd, 1) := by decide +kernel
theorem dX10_rotateIn_25 : decode cX10_rotateIn 25 = .ok (.iconst 1, 1) := by decide +kernel
theorem dX10_rotateIn_26 : decode cX10_rotateIn 26 = .ok (.iadd, 1) := by decide +kernel
theorem dX10_rotateIn_27 : decode cX10_rotateIn 27 = .ok (.iaload, 1) := by decide +kernel
theorem dX10_rotateIn_28 : decode cX10_rotateIn 28 = .ok (.iastore, 1) := by decide +kernel
theorem dX10_rotateIn_29 : decode cX10_rotateIn 29 = .ok (.iinc 4 1, 3) := by decide +kernel
theorem dX10_rotateIn_32 : decode cX10_rotateIn 32 = .ok (.goto (-23), 3) := by decide +kernel
theorem dX10_rotateIn_35 : decode cX10_rotateIn 35 = .ok (.aload_n 0, 1) := by decide +kernel
theorem dX10_rotateIn_36 : decode cX10_rotateIn 36 = .ok (.iconst 2, 1) := by decide +kernel
theorem dX10_rotateIn_37 : decode cX10_rotateIn 37 = .ok (.iload_n 2, 1) := by decide +kernel
theorem dX10_rotateIn_38 : decode cX10_rotateIn 38 = .ok (.iadd, 1) := by decide +kernel
theorem dX10_rotateIn_39 : decode cX10_rotateIn 39 = .ok (.iload_n 3, 1) := by decide +kernel
theorem dX10_rotateIn_40 : decode cX10_rotateIn 40 = .ok (.iastore, 1) := by decide +kernel
theorem dX10_rotateIn_41 : decode cX10_rotateIn 41 = .ok (.return_, 1) := by decide +kernel
theorem dX10_rotate_0 : decode cX10_rotate 0 = .ok (.aload_n 0, 1) := by decide +kernel
theorem dX10_rotate_1 : decode cX10_rotate 1 = .ok (.aload_n 0, 1) := by decide +kernel
theorem dX10_rotate_2 : decode cX10_rotate 2 = .ok (.getfield 16, 3) := by decide +kernel
theorem dX10_rotate_5 : decode cX10_rotate 5 = .ok (.iload_n 1, 1) := by decide +kernel
theorem dX10_rotate_6 : decode cX10_rotate 6 = .ok (.iload_n 2, 1) := by decide +kernel
theorem dX10_rotate_7 : decode cX10_rotate 7 = .ok (.invokevirtual 164, 3) := by decide +kernel
theorem dX10_rotate_10 : decode cX10_rotate 10 = .ok (.istore_n 3, 1) := by decide +kernel
theorem dX10_rotate_11 : decode cX10_rotate 11 = .ok (.iload_n 3, 1) := by decide +kernel
theorem dX10_rotate_12 : decode cX10_rotate 12 = .ok (.ifCond .eq 5, 3) := by decide +kernel
theorem dX10_rotate_15 : decode cX10_rotate 15 = .ok (.iload_n 3, 1) := by decide +kernel
theorem dX10_rotate_16 : decode cX10_rotate 16 = .ok (.ireturn, 1) := by decide +kernel
theorem dX10_rotate_17 : decode cX10_rotate 17 = .ok (.aload_n 0, 1) := by decide +kernel
theorem dX10_rotate_18 : decode cX10_rotate 18 = .ok (.invokevirtual 150, 3) := by decide +kernel
theorem dX10_rotate_21 : decode cX10_rotate 21 = .ok (.aload_n 0, 1) := by decide +kernel
theorem dX10_rotate_22 : decode cX10_rotate 22 = .ok (.getfield 16, 3) := by decide +kernel
theorem dX10_rotate_25 : decode cX10_rotate 25 = .ok (.iload_n 1, 1) := by decide +kernel
theorem dX10_rotate_26 : decode cX10_rotate 26 = .ok (.iload_n 2, 1) := by decide +kernel
theorem dX10_rotate_27 : decode cX10_rotate 27 = .ok (.invokestatic 181, 3) := by decide +kernel
theorem dX10_rotate_30 : decode cX10_rotate 30 = .ok (.aload_n 0, 1) := by decide +kernel
theorem dX10_rotate_31 : decode cX10_rotate 31 = .ok (.aload_n 0, 1) := by decide +kernel
theorem dX10_rotate_32 : decode cX10_rotate 32 = .ok (.getfield 16, 3) := by decide +kernel
theorem dX10_rotate_35 : decode cX10_rotate 35 = .ok (.invokevirtual 140, 3) := by decide +kernel
theorem dX10_rotate_38 : decode cX10_rotate 38 = .ok (.ireturn, 1) := by decide +kernel
theorem dX10_splitIn_0 : decode cX10_splitIn 0 = .ok (.iconst 0, 1) := by decide +kernel
theorem dX10_splitIn_1 : decode cX10_splitIn 1 = .ok (.istore_n 3, 1) := by decide +kernel
theorem dX10_splitIn_2 : decode cX10_splitIn 2 = .ok (.iconst 0, 1) := by decide +kernel
theorem dX10_splitIn_3 : decode cX10_splitIn 3 = .ok (.istore 4, 2) := by decide +kernel
theorem dX10_splitIn_5 : decode cX10_splitIn 5 = .ok (.iconst 0, 1) := by decide +kernel
theorem dX10_splitIn_6 : decode cX10_splitIn 6 = .ok (.istore 5, 2) := by decide +kernel
theorem dX10_splitIn_8 : decode cX10_splitIn 8 = .ok (.iload 5, 2) := by decide +kernel
theorem dX10_splitIn_10 : decode cX10_splitIn 10 = .ok (.iconst 2, 1) := by decide +kernel
theorem dX10_splitIn_11 : decode cX10_splitIn 11 = .ok (.if_icmp .ge 98, 3) := by decide +kernel
theorem dX10_splitIn_14 : decode cX10_splitIn 14 = .ok (.iconst 0, 1) := by decide +kernel
theorem dX10_splitIn_15 : decode cX10_splitIn 15 = .ok (.istore 6, 2) := by decide +kernel
theorem dX10_splitIn_17 : decode cX10_splitIn 17 = .ok (.iload 6, 2) := by decide +kernel
theorem dX10_splitIn_19 : decode cX10_splitIn 19 = .ok (.aload_n 0, 1) := by decide +kernel
theorem dX10_splitIn_20 : decode cX10_splitIn 20 = .ok (.getfield 53, 3) := by decide +kernel
theorem dX10_splitIn_23 : decode cX10_splitIn 23 = .ok (.if_icmp .ge 67, 3) := by decide +kernel
theorem dX10_splitIn_26 : decode cX10_splitIn 26 = .ok (.aload_n 1, 1) := by decide +kernel
theorem dX10_splitIn_27 : decode cX10_splitIn 27 = .ok (.iconst 2, 1) := by decide +kernel
theorem dX10_splitIn_28 : decode cX10_splitIn 28 = .ok (.iload 6, 2) := by decide +kernel
theorem dX10_splitIn_30 : decode cX10_splitIn 30 = .ok (.iadd, 1) := by decide +kernel
theorem dX10_splitIn_31 : decode cX10_splitIn 31 = .ok (.iaload, 1) := by decide +kernel
theorem dX10_splitIn_32 : decode cX10_splitIn 32 = .ok (.istore 7, 2) := by decide +kernel
theorem dX10_splitIn_34 : decode cX10_splitIn 34 = .ok (.iload 7, 2) := by decide +kernel
theorem dX10_splitIn_36 : decode cX10_splitIn 36 = .ok (.ifCond .eq 18, 3) := by decide +kernel
theorem dX10_splitIn_39 : decode cX10_splitIn 39 = .ok (.aload_n 0, 1) := by decide +kernel
theorem dX10_splitIn_40 : decode cX10_splitIn 40 = .ok (.aload_n 1, 1) := by decide +kernel
theorem dX10_splitIn_41 : decode cX10_splitIn 41 = .ok (.iload 7, 2) := by decide +kernel
theorem dX10_splitIn_43 : decode cX10_splitIn 43 = .ok (.invokevirtual 110, 3) := by decide +kernel
theorem dX10_splitIn_46 : decode cX10_splitIn 46 = .ok (.iload_n 2, 1) := by decide +kernel
theorem dX10_splitIn_47 : decode cX10_splitIn 47 = .ok (.if_icmp .ge 7, 3) := by decide +kernel
theorem dX10_splitIn_50 : decode cX10_splitIn 50 = .ok (.iconst 1, 1) := by decide +kernel
theorem dX10_splitIn_51 : decode cX10_splitIn 51 = .ok (.goto 4, 3) := by decide +kernel
theorem dX10_splitIn_54 : decode cX10_splitIn 54 = .ok (.iconst 0, 1) := by decide +kernel
theorem dX10_splitIn_55 : decode cX10_splitIn 55 = .ok (.istore 8, 2) := by decide +kernel
theorem dX10_splitIn_57 : decode cX10_splitIn 57 = .ok (.iload 8, 2) := by decide +kernel
theorem dX10_splitIn_59 : decode cX10_splitIn 59 = .ok (.iload 5, 2) := by decide +kernel
theorem dX10_splitIn_61 : decode cX10_splitIn 61 = .ok (.iconst 1, 1) := by decide +kernel
theorem dX10_splitIn_62 : decode cX10_splitIn 62 = .ok (.if_icmp .ne 7, 3) := by decide +kernel
theorem dX10_splitIn_65 : decode cX10_splitIn 65 = .ok (.iconst 1, 1) := by decide +kernel
theorem dX10_splitIn_66 : decode cX10_splitIn 66 = .ok (.goto 4, 3) := by decide +kernel
theorem dX10_splitIn_69 : decode cX10_splitIn 69 = .ok (.iconst 0, 1) := by decide +kernel
theorem dX10_splitIn_70 : decode cX10_splitIn 70 = .ok (.if_icmp .ne 14, 3) := by decide +kernel
theorem dX10_splitIn_73 : decode cX10_splitIn 73 = .ok (.aload_n 0, 1) := by decide +kernel
theorem dX10_splitIn_74 : decode cX10_splitIn 74 = .ok (.getfield 50, 3) := by decide +kernel
theorem dX10_splitIn_77 : decode cX10_splitIn 77 = .ok (.iload_n 3, 1) := by decide +kernel
theorem dX10_splitIn_78 : decode cX10_splitIn 78 = .ok (.iload 7, 2) := by decide +kernel
theorem dX10_splitIn_80 : decode cX10_splitIn 80 = .ok (.iastore, 1) := by decide +kernel
theorem dX10_splitIn_81 : decode cX10_splitIn 81 = .ok (.iinc 3 1, 3) := by decide +kernel
theorem dX10_splitIn_84 : decode cX10_splitIn 84 = .ok (.iinc 6 1, 3) := by decide +kernel
theorem dX10_splitIn_87 : decode cX10_splitIn 87 = .ok (.goto (-70), 3) := by decide +kernel
theorem dX10_splitIn_90 : decode cX10_splitIn 90 = .ok (.iload 5, 2) := by decide +kernel
theorem dX10_splitIn_92 : decode cX10_splitIn 92 = .ok (.ifCond .ne 7, 3) := by decide +kernel
theorem dX10_splitIn_95 : decode cX10_splitIn 95 = .ok (.iload_n 3, 1) := by decide +kernel
theorem dX10_splitIn_96 : decode cX10_splitIn 96 = .ok (.goto 5, 3) := by decide +kernel
theorem dX10_splitIn_99 : decode cX10_splitIn 99 = .ok (.iload 4, 2) := by decide +kernel
theorem dX10_splitIn_101 : decode cX10_splitIn 101 = .ok (.istore 4, 2) := by decide +kernel
theorem dX10_splitIn_103 : decode cX10_splitIn 103 = .ok (.iinc 5 1, 3) := by decide +kernel
theorem dX10_splitIn_106 : decode cX10_splitIn 106 = .ok (.goto (-98), 3) := by decide +kernel
theorem dX10_splitIn_109 : decode cX10_splitIn 109 = .ok (.iconst 0, 1) := by decide +kernel
theorem dX10_splitIn_110 : decode cX10_splitIn 110 = .ok (.istore 5, 2) := by decide +kernel
theorem dX10_splitIn_112 : decode cX10_splitIn 112 = .ok (.iload 5, 2) := by decide +kernel
theorem dX10_splitIn_114 : decode cX10_splitIn 114 = .ok (.aload_n 0, 1) := by decide +kernel
theorem dX10_splitIn_115 : decode cX10_splitIn 115 = .ok (.getfield 53, 3) := by decide +kernel
theorem dX10_splitIn_118 : decode cX10_splitIn 118 = .ok (.if_icmp .ge 22, 3) := by decide +kernel
theorem dX10_splitIn_121 : decode cX10_splitIn 121 = .ok (.aload_n 1, 1) := by decide +kernel
theorem dX10_splitIn_122 : decode cX10_splitIn 122 = .ok (.iconst 2, 1) := by decide +kernel
theorem dX10_splitIn_123 : decode cX10_splitIn 123 = .ok (.iload 5, 2) := by decide +kernel
theorem dX10_splitIn_125 : decode cX10_splitIn 125 = .ok (.iadd, 1) := by decide +kernel
theorem dX10_splitIn_126 : decode cX10_splitIn 126 = .ok (.aload_n 0, 1) := by decide +kernel
theorem dX10_splitIn_127 : decode cX10_splitIn 127 = .ok (.getfield 50, 3) := by decide +kernel
theorem dX10_splitIn_130 : decode cX10_splitIn 130 = .ok (.iload 5, 2) := by decide +kernel
theorem dX10_splitIn_132 : decode cX10_splitIn 132 = .ok (.iaload, 1) := by decide +kernel
theorem dX10_splitIn_133 : decode cX10_splitIn 133 = .ok (.iastore, 1) := by decide +kernel
theorem dX10_splitIn_134 : decode cX10_splitIn 134 = .ok (.iinc 5 1, 3) := by decide +kernel
theorem dX10_splitIn_137 : decode cX10_splitIn 137 = .ok (.goto (-25), 3) := by decide +kernel
theorem dX10_splitIn_140 : decode cX10_splitIn 140 = .ok (.aload_n 1, 1) := by decide +kernel
theorem dX10_splitIn_141 : decode cX10_splitIn 141 = .ok (.iconst 0, 1) := by decide +kernel
theorem dX10_splitIn_142 : decode cX10_splitIn 142 = .ok (.iload 4, 2) := by decide +kernel
theorem dX10_splitIn_144 : decode cX10_splitIn 144 = .ok (.iastore, 1) := by decide +kernel
theorem dX10_splitIn_145 : decode cX10_splitIn 145 = .ok (.iload 4, 2) := by decide +kernel
theorem dX10_splitIn_147 : decode cX10_splitIn 147 = .ok (.ireturn, 1) := by decide +kernel
theorem dX10_split_0 : decode cX10_split 0 = .ok (.iload_n 1, 1) := by decide +kernel
theorem dX10_split_1 : decode cX10_split 1 = .ok (.i2l, 1) := by decide +kernel
theorem dX10_split_2 : decode cX10_split 2 = .ok (.lconst 1, 1) := by decide +kernel
theorem dX10_split_3 : decode cX10_split 3 = .ok (.ldc2_w 184, 3) := by decide +kernel
theorem dX10_split_6 : decode cX10_split 6 = .ok (.invokestatic 57, 3) := by decide +kernel
theorem dX10_split_9 : decode cX10_split 9 = .ok (.ifCond .ne 6, 3) := by decide +kernel
theorem dX10_split_12 : decode cX10_split 12 = .ok (.bipush (-2), 2) := by decide +kernel
theorem dX10_split_14 : decode cX10_split 14 = .ok (.ireturn, 1) := by decide +kernel
theorem dX10_split_15 : decode cX10_split 15 = .ok (.aload_n 0, 1) := by decide +kernel
theorem dX10_split_16 : decode cX10_split 16 = .ok (.invokevirtual 150, 3) := by decide +kernel
theorem dX10_split_19 : decode cX10_split 19 = .ok (.aload_n 0, 1) := by decide +kernel
theorem dX10_split_20 : decode cX10_split 20 = .ok (.aload_n 0, 1) := by decide +kernel
theorem dX10_split_21 : decode cX10_split 21 = .ok (.getfield 16, 3) := by decide +kernel
theorem dX10_split_24 : decode cX10_split 24 = .ok (.iload_n 1, 1) := by decide +kernel
theorem dX10_split_25 : decode cX10_split 25 = .ok (.invokevirtual 186, 3) := by decide +kernel
theorem dX10_split_28 : decode cX10_split 28 = .ok (.ireturn, 1) := by decide +kernel
theorem dX10_bypassError_0 : decode cX10_bypassError 0 = .ok (.aload_n 0, 1) := by decide +kernel
theorem dX10_bypassError_1 : decode cX10_bypassError 1 = .ok (.iload_n 2, 1) := by decide +kernel
theorem dX10_bypassError_2 : decode cX10_bypassError 2 = .ok (.invokevirtual 61, 3) := by decide +kernel
theorem dX10_bypassError_5 : decode cX10_bypassError 5 = .ok (.ifCond .ne 5, 3) := by decide +kernel
theorem dX10_bypassError_8 : decode cX10_bypassError 8 = .ok (.iconst (-1), 1) := by decide +kernel
theorem dX10_bypassError_9 : decode cX10_bypassError 9 = .ok (.ireturn, 1) := by decide +kernel
theorem dX10_bypassError_10 : decode cX10_bypassError 10 = .ok (.iload_n 2, 1) := by decide +kernel
theorem dX10_bypassError_11 : decode cX10_bypassError 11 = .ok (.ifCond .eq 34, 3) := by decide +kernel
theorem dX10_bypassError_14 : decode cX10_bypassError 14 = .ok (.aload_n 0, 1) := by decide +kernel
theorem dX10_bypassError_15 : decode cX10_bypassError 15 = .ok (.getfield 13, 3) := by decide +kernel
theorem dX10_bypassError_18 : decode cX10_bypassError 18 = .ok (.iload_n 2, 1) := by decide +kernel
theorem dX10_bypassError_19 : decode cX10_bypassError 19 = .ok (.iaload, 1) := by decide +kernel
theorem dX10_bypassError_20 : decode cX10_bypassError 20 = .ok (.ifCond .ne 25, 3) := by decide +kernel
theorem dX10_bypassError_23 : decode cX10_bypassError 23 = .ok (.aload_n 1, 1) := by decide +kernel
theorem dX10_bypassError_24 : decode cX10_bypassError 24 = .ok (.bipush 10, 2) := by decide +kernel
theorem dX10_bypassError_26 : decode cX10_bypassError 26 = .ok (.iload_n 2, 1) := by decide +kernel
theorem dX10_bypassError_27 : decode cX10_bypassError 27 = .ok (.iadd, 1) := by decide +kernel
theorem dX10_bypassError_28 : decode cX10_bypassError 28 = .ok (.iaload, 1) := by decide +kernel
theorem dX10_bypassError_29 : decode cX10_bypassError 29 = .ok (.iconst 1, 1) := by decide +kernel
theorem dX10_bypassError_30 : decode cX10_bypassError 30 = .ok (.if_icmp .ne 15, 3) := by decide +kernel
theorem dX10_bypassError_33 : decode cX10_bypassError 33 = .ok (.aload_n 1, 1) := by decide +kernel
theorem dX10_bypassError_34 : decode cX10_bypassError 34 = .ok (.bipush 18, 2) := by decide +kernel
theorem dX10_bypassError_36 : decode cX10_bypassError 36 = .ok (.iconst 2, 1) := by decide +kernel
theorem dX10_bypassError_37 : decode cX10_bypassError 37 = .ok (.iload_n 2, 1) := by decide +kernel
theorem dX10_bypassError_38 : decode cX10_bypassError 38 = .ok (.imul, 1) := by decide +kernel
theorem dX10_bypassError_39 : decode cX10_bypassError 39 = .ok (.iadd, 1) := by decide +kernel
theorem dX10_bypassError_40 : decode cX10_bypassError 40 = .ok (.iaload, 1) := by decide +kernel
theorem dX10_bypassError_41 : decode cX10_bypassError 41 = .ok (.iload_n 2, 1) := by decide +kernel
theorem dX10_bypassError_42 : decode cX10_bypassError 42 = .ok (.if_icmp .ne 8, 3) := by decide +kernel
theorem dX10_bypassError_45 : decode cX10_bypassError 45 = .ok (.bipush (-3), 2) := by decide +kernel
theorem dX10_bypassError_47 : decode cX10_bypassError 47 = .ok (.goto 4, 3) := by decide +kernel
theorem dX10_bypassError_50 : decode cX10_bypassError 50 = .ok (.iconst 0, 1) := by decide +kernel
theorem dX10_bypassError_51 : decode cX10_bypassError 51 = .ok (.ireturn, 1) := by decide +kernel
theorem dX10_bypassIn_0 : decode cX10_bypassIn 0 = .ok (.aload_n 1, 1) := by decide +kernel
theorem dX10_bypassIn_1 : decode cX10_bypassIn 1 = .ok (.bipush 18, 2) := by decide +kernel
theorem dX10_bypassIn_3 : decode cX10_bypassIn 3 = .ok (.iconst 2, 1) := by decide +kernel
theorem dX10_bypassIn_4 : decode cX10_bypassIn 4 = .ok (.iload_n 2, 1) := by decide +kernel
theorem dX10_bypassIn_5 : decode cX10_bypassIn 5 = .ok (.imul, 1) := by decide +kernel
theorem dX10_bypassIn_6 : decode cX10_bypassIn 6 = .ok (.iadd, 1) := by decide +kernel
theorem dX10_bypassIn_7 : decode cX10_bypassIn 7 = .ok (.iaload, 1) := by decide +kernel
theorem dX10_bypassIn_8 : decode cX10_bypassIn 8 = .ok (.istore_n 3, 1) := by decide +kernel
theorem dX10_bypassIn_9 : decode cX10_bypassIn 9 = .ok (.iconst 0, 1) := by decide +kernel
theorem dX10_bypassIn_10 : decode cX10_bypassIn 10 = .ok (.istore 4, 2) := by decide +kernel
theorem dX10_bypassIn_12 : decode cX10_bypassIn 12 = .ok (.iconst 0, 1) := by decide +kernel
theorem dX10_bypassIn_13 : decode cX10_bypassIn 13 = .ok (.istore 5, 2) := by decide +kernel
theorem dX10_bypassIn_15 : decode cX10_bypassIn 15 = .ok (.iload 5, 2) := by decide +kernel
theorem dX10_bypassIn_17 : decode cX10_bypassIn 17 = .ok (.aload_n 0, 1) := by decide +kernel
theorem dX10_bypassIn_18 : decode cX10_bypassIn 18 = .ok (.getfield 53, 3) := by decide +kernel
theorem dX10_bypassIn_21 : decode cX10_bypassIn 21 = .ok (.if_icmp .ge 174, 3) := by decide +kernel
theorem dX10_bypassIn_24 : decode cX10_bypassIn 24 = .ok (.iconst 0, 1) := by decide +kernel
theorem dX10_bypassIn_25 : decode cX10_bypassIn 25 = .ok (.istore 6, 2) := by decide +kernel
theorem dX10_bypassIn_27 : decode cX10_bypassIn 27 = .ok (.iload 6, 2) := by decide +kernel
theorem dX10_bypassIn_29 : decode cX10_bypassIn 29 = .ok (.aload_n 1, 1) := by decide +kernel
theorem dX10_bypassIn_30 : decode cX10_bypassIn 30 = .ok (.bipush 10, 2) := by decide +kernel
theorem dX10_bypassIn_32 : decode cX10_bypassIn 32 = .ok (.iload 5, 2) := by decide +kernel
theorem dX10_bypassIn_34 : decode cX10_bypassIn 34 = .ok (.iadd, 1) := by decide +kernel
theorem dX10_bypassIn_35 : decode cX10_bypassIn 35 = .ok (.iaload, 1) := by decide +kernel
theorem dX10_bypassIn_36 : decode cX10_bypassIn 36 = .ok (.if_icmp .ge 41, 3) := by decide +kernel
theorem dX10_bypassIn_39 : decode cX10_bypassIn 39 = .ok (.aload_n 1, 1) := by decide +kernel
theorem dX10_bypassIn_40 : decode cX10_bypassIn 40 = .ok (.bipush 18, 2) := by decide +kernel
theorem dX10_bypassIn_42 : decode cX10_bypassIn 42 = .ok (.iconst 2, 1) := by decide +kernel
theorem dX10_bypassIn_43 : decode cX10_bypassIn 43 = .ok (.iload 5, 2) := by decide +kernel
theorem dX10_bypassIn_45 : decode cX10_bypassIn 45 = .ok (.imul, 1) := by decide +kernel
theorem dX10_bypassIn_46 : decode cX10_bypassIn 46 = .ok (.iadd, 1) := by decide +kernel
theorem dX10_bypassIn_47 : decode cX10_bypassIn 47 = .ok (.iload 6, 2) := by decide +kernel
theorem dX10_bypassIn_49 : decode cX10_bypassIn 49 = .ok (.iadd, 1) := by decide +kernel
theorem dX10_bypassIn_50 : decode cX10_bypassIn 50 = .ok (.iaload, 1) := by decide +kernel
theorem dX10_bypassIn_51 : decode cX10_bypassIn 51 = .ok (.iload_n 2, 1) := by decide +kernel
theorem dX10_bypassIn_52 : decode cX10_bypassIn 52 = .ok (.if_icmp .ne 19, 3) := by decide +kernel
theorem dX10_bypassIn_55 : decode cX10_bypassIn 55 = .ok (.aload_n 1, 1) := by decide +kernel
theorem dX10_bypassIn_56 : decode cX10_bypassIn 56 = .ok (.bipush 18, 2) := by decide +kernel
theorem dX10_bypassIn_58 : decode cX10_bypassIn 58 = .ok (.iconst 2, 1) := by decide +kernel
theorem dX10_bypassIn_59 : decode cX10_bypassIn 59 = .ok (.iload 5, 2) := by decide +kernel
theorem dX10_bypassIn_61 : decode cX10_bypassIn 61 = .ok (.imul, 1) := by decide +kernel
theorem dX10_bypassIn_62 : decode cX10_bypassIn 62 = .ok (.iadd, 1) := by decide +kernel
theorem dX10_bypassIn_63 : decode cX10_bypassIn 63 = .ok (.iload 6, 2) := by decide +kernel
theorem dX10_bypassIn_65 : decode cX10_bypassIn 65 = .ok (.iadd, 1) := by decide +kernel
theorem dX10_bypassIn_66 : decode cX10_bypassIn 66 = .ok (.iload_n 3, 1) := by decide +kernel
theorem dX10_bypassIn_67 : decode cX10_bypassIn 67 = .ok (.iastore, 1) := by decide +kernel
theorem dX10_bypassIn_68 : decode cX10_bypassIn 68 = .ok (.iinc 4 1, 3) := by decide +kernel
theorem dX10_bypassIn_71 : decode cX10_bypassIn 71 = .ok (.iinc 6 1, 3) := by decide +kernel
theorem dX10_bypassIn_74 : decode cX10_bypassIn 74 = .ok (.goto (-47), 3) := by decide +kernel
theorem dX10_bypassIn_77 : decode cX10_bypassIn 77 = .ok (.aload_n 1, 1) := by decide +kernel
theorem dX10_bypassIn_78 : decode cX10_bypassIn 78 = .ok (.bipush 10, 2) := by decide +kernel
theorem dX10_bypassIn_80 : decode cX10_bypassIn 80 = .ok (.iload 5, 2) := by decide +kernel
theorem dX10_bypassIn_82 : decode cX10_bypassIn 82 = .ok (.iadd, 1) := by decide +kernel
theorem dX10_bypassIn_83 : decode cX10_bypassIn 83 = .ok (.iaload, 1) := by decide +kernel
theorem dX10_bypassIn_84 : decode cX10_bypassIn 84 = .ok (.iconst 2, 1) := by decide +kernel
theorem dX10_bypassIn_85 : decode cX10_bypassIn 85 = .ok (.if_icmp .ne 104, 3) := by decide +kernel
theorem dX10_bypassIn_88 : decode cX10_bypassIn 88 = .ok (.aload_n 1, 1) := by decide +kernel
theorem dX10_bypassIn_89 : decode cX10_bypassIn 89 = .ok (.bipush 18, 2) := by decide +kernel
theorem dX10_bypassIn_91 : decode cX10_bypassIn 91 = .ok (.iconst 2, 1) := by decide +kernel
theorem dX10_bypassIn_92 : decode cX10_bypassIn 92 = .ok (.iload 5, 2) := by decide +kernel
theorem dX10_bypassIn_94 : decode cX10_bypassIn 94 = .ok (.imul, 1) := by decide +kernel
theorem dX10_bypassIn_95 : decode cX10_bypassIn 95 = .ok (.iadd, 1) := by decide +kernel
theorem dX10_bypassIn_96 : decode cX10_bypassIn 96 = .ok (.iaload, 1) := by decide +kernel
theorem dX10_bypassIn_97 : decode cX10_bypassIn 97 = .ok (.aload_n 1, 1) := by decide +kernel
theorem dX10_bypassIn_98 : decode cX10_bypassIn 98 = .ok (.bipush 18, 2) := by decide +kernel
theorem dX10_bypassIn_100 : decode cX10_bypassIn 100 = .ok (.iconst 2, 1) := by decide +kernel
theorem dX10_bypassIn_101 : decode cX10_bypassIn 101 = .ok (.iload 5, 2) := by decide +kernel
theorem dX10_bypassIn_103 : decode cX10_bypassIn 103 = .ok (.imul, 1) := by decide +kernel
theorem dX10_bypassIn_104 : decode cX10_bypassIn 104 = .ok (.iadd, 1) := by decide +kernel
theorem dX10_bypassIn_105 : decode cX10_bypassIn 105 = .ok (.iconst 1, 1) := by decide +kernel
theorem dX10_bypassIn_106 : decode cX10_bypassIn 106 = .ok (.iadd, 1) := by decide +kernel
theorem dX10_bypassIn_107 : decode cX10_bypassIn 107 = .ok (.iaload, 1) := by decide +kernel
theorem dX10_bypassIn_108 : decode cX10_bypassIn 108 = .ok (.if_icmp .ne 81, 3) := by decide +kernel
theorem dX10_bypassIn_111 : decode cX10_bypassIn 111 = .ok (.aload_n 1, 1) := by decide +kernel
theorem dX10_bypassIn_112 : decode cX10_bypassIn 112 = .ok (.bipush 34, 2) := by decide +kernel
theorem dX10_bypassIn_114 : decode cX10_bypassIn 114 = .ok (.iconst 2, 1) := by decide +kernel
theorem dX10_bypassIn_115 : decode cX10_bypassIn 115 = .ok (.iload 5, 2) := by decide +kernel
theorem dX10_bypassIn_117 : decode cX10_bypassIn 117 = .ok (.imul, 1) := by decide +kernel
theorem dX10_bypassIn_118 : decode cX10_bypassIn 118 = .ok (.iadd, 1) := by decide +kernel
theorem dX10_bypassIn_119 : decode cX10_bypassIn 119 = .ok (.iaload, 1) := by decide +kernel
theorem dX10_bypassIn_120 : decode cX10_bypassIn 120 = .ok (.aload_n 1, 1) := by decide +kernel
theorem dX10_bypassIn_121 : decode cX10_bypassIn 121 = .ok (.bipush 34, 2) := by decide +kernel
theorem dX10_bypassIn_123 : decode cX10_bypassIn 123 = .ok (.iconst 2, 1) := by decide +kernel
theorem dX10_bypassIn_124 : decode cX10_bypassIn 124 = .ok (.iload 5, 2) := by decide +kernel
theorem dX10_bypassIn_126 : decode cX10_bypassIn 126 = .ok (.imul, 1) := by decide +kernel
theorem dX10_bypassIn_127 : decode cX10_bypassIn 127 = .ok (.iadd, 1) := by decide +kernel
theorem dX10_bypassIn_128 : decode cX10_bypassIn 128 = .ok (.iconst 1, 1) := by decide +kernel
theorem dX10_bypassIn_129 : decode cX10_bypassIn 129 = .ok (.iadd, 1) := by decide +kernel
theorem dX10_bypassIn_130 : decode cX10_bypassIn 130 = .ok (.iaload, 1) := by decide +kernel
theorem dX10_bypassIn_131 : decode cX10_bypassIn 131 = .ok (.iadd, 1) := by decide +kernel
theorem dX10_bypassIn_132 : decode cX10_bypassIn 132 = .ok (.istore 6, 2) := by decide +kernel
theorem dX10_bypassIn_134 : decode cX10_bypassIn 134 = .ok (.aload_n 1, 1) := by decide +kernel
theorem dX10_bypassIn_135 : decode cX10_bypassIn 135 = .ok (.bipush 34, 2) := by decide +kernel
theorem dX10_bypassIn_137 : decode cX10_bypassIn 137 = .ok (.iconst 2, 1) := by decide +kernel
theorem dX10_bypassIn_138 : decode cX10_bypassIn 138 = .ok (.iload 5, 2) := by decide +kernel
theorem dX10_bypassIn_140 : decode cX10_bypassIn 140 = .ok (.imul, 1) := by decide +kernel
theorem dX10_bypassIn_141 : decode cX10_bypassIn 141 = .ok (.iadd, 1) := by decide +kernel
theorem dX10_bypassIn_142 : decode cX10_bypassIn 142 = .ok (.iload 6, 2) := by decide +kernel
theorem dX10_bypassIn_144 : decode cX10_bypassIn 144 = .ok (.bipush 99, 2) := by decide +kernel
theorem dX10_bypassIn_146 : decode cX10_bypassIn 146 = .ok (.if_icmp .le 8, 3) := by decide +kernel
theorem dX10_bypassIn_149 : decode cX10_bypassIn 149 = .ok (.bipush 99, 2) := by decide +kernel
theorem dX10_bypassIn_151 : decode cX10_bypassIn 151 = .ok (.goto 5, 3) := by decide +kernel
theorem dX10_bypassIn_154 : decode cX10_bypassIn 154 = .ok (.iload 6, 2) := by decide +kernel
theorem dX10_bypassIn_156 : decode cX10_bypassIn 156 = .ok (.iastore, 1) := by decide +kernel
theorem dX10_bypassIn_157 : decode cX10_bypassIn 157 = .ok (.aload_n 1, 1) := by decide +kernel
theorem dX10_bypassIn_158 : decode cX10_bypassIn 158 = .ok (.bipush 34, 2) := by decide +kernel
theorem dX10_bypassIn_160 : decode cX10_bypassIn 160 = .ok (.iconst 2, 1) := by decide +kernel
theorem dX10_bypassIn_161 : decode cX10_bypassIn 161 = .ok (.iload 5, 2) := by decide +kernel
theorem dX10_bypassIn_163 : decode cX10_bypassIn 163 = .ok (.imul, 1) := by decide +kernel
theorem dX10_bypassIn_164 : decode cX10_bypassIn 164 = .ok (.iadd, 1) := by decide +kernel
theorem dX10_bypassIn_165 : decode cX10_bypassIn 165 = .ok (.iconst 1, 1) := by decide +kernel
theorem dX10_bypassIn_166 : decode cX10_bypassIn 166 = .ok (.iadd, 1) := by decide +kernel
theorem dX10_bypassIn_167 : decode cX10_bypassIn 167 = .ok (.iconst 0, 1) := by decide +kernel
theorem dX10_bypassIn_168 : decode cX10_bypassIn 168 = .ok (.iastore, 1) := by decide +kernel
theorem dX10_bypassIn_169 : decode cX10_bypassIn 169 = .ok (.aload_n 1, 1) := by decide +kernel
theorem dX10_bypassIn_170 : decode cX10_bypassIn 170 = .ok (.bipush 18, 2) := by decide +kernel
theorem dX10_bypassIn_172 : decode cX10_bypassIn 172 = .ok (.iconst 2, 1) := by decide +kernel
theorem dX10_bypassIn_173 : decode cX10_bypassIn 173 = .ok (.iload 5, 2) := by decide +kernel
theorem dX10_bypassIn_175 : decode cX10_bypassIn 175 = .ok (.imul, 1) := by decide +kernel
theorem dX10_bypassIn_176 : decode cX10_bypassIn 176 = .ok (.iadd, 1) := by decide +kernel
theorem dX10_bypassIn_177 : decode cX10_bypassIn 177 = .ok (.iconst 1, 1) := by decide +kernel
theorem dX10_bypassIn_178 : decode cX10_bypassIn 178 = .ok (.iadd, 1) := by decide +kernel
theorem dX10_bypassIn_179 : decode cX10_bypassIn 179 = .ok (.iconst 0, 1) := by decide +kernel
theorem dX10_bypassIn_180 : decode cX10_bypassIn 180 = .ok (.iastore, 1) := by decide +kernel
theorem dX10_bypassIn_181 : decode cX10_bypassIn 181 = .ok (.aload_n 1, 1) := by decide +kernel
theorem dX10_bypassIn_182 : decode cX10_bypassIn 182 = .ok (.bipush 10, 2) := by decide +kernel
theorem dX10_bypassIn_184 : decode cX10_bypassIn 184 = .ok (.iload 5, 2) := by decide +kernel
theorem dX10_bypassIn_186 : decode cX10_bypassIn 186 = .ok (.iadd, 1) := by decide +kernel
theorem dX10_bypassIn_187 : decode cX10_bypassIn 187 = .ok (.iconst 1, 1) := by decide +kernel
theorem dX10_bypassIn_188 : decode cX10_bypassIn 188 = .ok (.iastore, 1) := by decide +kernel
theorem dX10_bypassIn_189 : decode cX10_bypassIn 189 = .ok (.iinc 5 1, 3) := by decide +kernel
theorem dX10_bypassIn_192 : decode cX10_bypassIn 192 = .ok (.goto (-177), 3) := by decide +kernel
theorem dX10_bypassIn_195 : decode cX10_bypassIn 195 = .ok (.aload_n 1, 1) := by decide +kernel
theorem dX10_bypassIn_196 : decode cX10_bypassIn 196 = .ok (.bipush 34, 2) := by decide +kernel
theorem dX10_bypassIn_198 : decode cX10_bypassIn 198 = .ok (.iconst 2, 1) := by decide +kernel
theorem dX10_bypassIn_199 : decode cX10_bypassIn 199 = .ok (.iload_n 2, 1) := by decide +kernel
theorem dX10_bypassIn_200 : decode cX10_bypassIn 200 = .ok (.imul, 1) := by decide +kernel
theorem dX10_bypassIn_201 : decode cX10_bypassIn 201 = .ok (.iadd, 1) := by decide +kernel
theorem dX10_bypassIn_202 : decode cX10_bypassIn 202 = .ok (.iconst 0, 1) := by decide +kernel
theorem dX10_bypassIn_203 : decode cX10_bypassIn 203 = .ok (.iastore, 1) := by decide +kernel
theorem dX10_bypassIn_204 : decode cX10_bypassIn 204 = .ok (.iload 4, 2) := by decide +kernel
theorem dX10_bypassIn_206 : decode cX10_bypassIn 206 = .ok (.ireturn, 1) := by decide +kernel
theorem dX10_bypass_0 : decode cX10_bypass 0 = .ok (.aload_n 0, 1) := by decide +kernel
theorem dX10_bypass_1 : decode cX10_bypass 1 = .ok (.aload_n 0, 1) := by decide +kernel
theorem dX10_bypass_2 : decode cX10_bypass 2 = .ok (.getfield 16, 3) := by decide +kernel
theorem dX10_bypass_5 : decode cX10_bypass 5 = .ok (.iload_n 1, 1) := by decide +kernel
theorem dX10_bypass_6 : decode cX10_bypass 6 = .ok (.invokevirtual 189, 3) := by decide +kernel
theorem dX10_bypass_9 : decode cX10_bypass 9 = .ok (.istore_n 2, 1) := by decide +kernel
theorem dX10_bypass_10 : decode cX10_bypass 10 = .ok (.iload_n 2, 1) := by decide +kernel
theorem dX10_bypass_11 : decode cX10_bypass 11 = .ok (.ifCond .eq 5, 3) := by decide +kernel
theorem dX10_bypass_14 : decode cX10_bypass 14 = .ok (.iload_n 2, 1) := by decide +kernel
theorem dX10_bypass_15 : decode cX10_bypass 15 = .ok (.ireturn, 1) := by decide +kernel
theorem dX10_bypass_16 : decode cX10_bypass 16 = .ok (.aload_n 0, 1) := by decide +kernel
theorem dX10_bypass_17 : decode cX10_bypass 17 = .ok (.invokevirtual 150, 3) := by decide +kernel
theorem dX10_bypass_20 : decode cX10_bypass 20 = .ok (.aload_n 0, 1) := by decide +kernel
theorem dX10_bypass_21 : decode cX10_bypass 21 = .ok (.aload_n 0, 1) := by decide +kernel
theorem dX10_bypass_22 : decode cX10_bypass 22 = .ok (.getfield 16, 3) := by decide +kernel
theorem dX10_bypass_25 : decode cX10_bypass 25 = .ok (.iload_n 1, 1) := by decide +kernel
theorem dX10_bypass_26 : decode cX10_bypass 26 = .ok (.invokevirtual 192, 3) := by decide +kernel
theorem dX10_bypass_29 : decode cX10_bypass 29 = .ok (.ireturn, 1) := by decide +kernel
theorem dX10_setCount_0 : decode cX10_setCount 0 = .ok (.aload_n 0, 1) := by decide +kernel
theorem dX10_setCount_1 : decode cX10_setCount 1 = .ok (.iload_n 1, 1) := by decide +kernel
theorem dX10_setCount_2 : decode cX10_setCount 2 = .ok (.iload_n 2, 1) := by decide +kernel
theorem dX10_setCount_3 : decode cX10_setCount 3 = .ok (.invokevirtual 107, 3) := by decide +kernel
theorem dX10_setCount_6 : decode cX10_setCount 6 = .ok (.ifCond .ne 5, 3) := by decide +kernel
theorem dX10_setCount_9 : decode cX10_setCount 9 = .ok (.iconst (-1), 1) := by decide +kernel
theorem dX10_setCount_10 : decode cX10_setCount 10 = .ok (.ireturn, 1) := by decide +kernel
theorem dX10_setCount_11 : decode cX10_setCount 11 = .ok (.iload_n 3, 1) := by decide +kernel
theorem dX10_setCount_12 : decode cX10_setCount 12 = .ok (.i2l, 1) := by decide +kernel
theorem dX10_setCount_13 : decode cX10_setCount 13 = .ok (.lconst 0, 1) := by decide +kernel
theorem dX10_setCount_14 : decode cX10_setCount 14 = .ok (.ldc2_w 184, 3) := by decide +kernel
theorem dX10_setCount_17 : decode cX10_setCount 17 = .ok (.invokestatic 57, 3) := by decide +kernel
theorem dX10_setCount_20 : decode cX10_setCount 20 = .ok (.ifCond .ne 6, 3) := by decide +kernel
theorem dX10_setCount_23 : decode cX10_setCount 23 = .ok (.bipush (-2), 2) := by decide +kernel
theorem dX10_setCount_25 : decode cX10_setCount 25 = .ok (.ireturn, 1) := by decide +kernel
theorem dX10_setCount_26 : decode cX10_setCount 26 = .ok (.aload_n 0, 1) := by decide +kernel
theorem dX10_setCount_27 : decode cX10_setCount 27 = .ok (.invokevirtual 150, 3) := by decide +kernel
theorem dX10_setCount_30 : decode cX10_setCount 30 = .ok (.aload_n 0, 1) := by decide +kernel
theorem dX10_setCount_31 : decode cX10_setCount 31 = .ok (.getfield 16, 3) := by decide +kernel
theorem dX10_setCount_34 : decode cX10_setCount 34 = .ok (.bipush 34, 2) := by decide +kernel
theorem dX10_setCount_36 : decode cX10_setCount 36 = .ok (.iconst 2, 1) := by decide +kernel
theorem dX10_setCount_37 : decode cX10_setCount 37 = .ok (.iload_n 1, 1) := by decide +kernel
theorem dX10_setCount_38 : decode cX10_setCount 38 = .ok (.imul, 1) := by decide +kernel
theorem dX10_setCount_39 : decode cX10_setCount 39 = .ok (.iadd, 1) := by decide +kernel
theorem dX10_setCount_40 : decode cX10_setCount 40 = .ok (.iload_n 2, 1) := by decide +kernel
theorem dX10_setCount_41 : decode cX10_setCount 41 = .ok (.iadd, 1) := by decide +kernel
theorem dX10_setCount_42 : decode cX10_setCount 42 = .ok (.iaload, 1) := by decide +kernel
theorem dX10_setCount_43 : decode cX10_setCount 43 = .ok (.istore 4, 2) := by decide +kernel
theorem dX10_setCount_45 : decode cX10_setCount 45 = .ok (.aload_n 0, 1) := by decide +kernel
theorem dX10_setCount_46 : decode cX10_setCount 46 = .ok (.getfield 16, 3) := by decide +kernel
theorem dX10_setCount_49 : decode cX10_setCount 49 = .ok (.bipush 34, 2) := by decide +kernel
theorem dX10_setCount_51 : decode cX10_setCount 51 = .ok (.iconst 2, 1) := by decide +kernel
theorem dX10_setCount_52 : decode cX10_setCount 52 = .ok (.iload_n 1, 1) := by decide +kernel
theorem dX10_setCount_53 : decode cX10_setCount 53 = .ok (.imul, 1) := by decide +kernel
theorem dX10_setCount_54 : decode cX10_setCount 54 = .ok (.iadd, 1) := by decide +kernel
theorem dX10_setCount_55 : decode cX10_setCount 55 = .ok (.iload_n 2, 1) := by decide +kernel
theorem dX10_setCount_56 : decode cX10_setCount 56 = .ok (.iadd, 1) := by decide +kernel
theorem dX10_setCount_57 : decode cX10_setCount 57 = .ok (.iload_n 3, 1) := by decide +kernel
theorem dX10_setCount_58 : decode cX10_setCount 58 = .ok (.iastore, 1) := by decide +kernel
theorem dX10_setCount_59 : decode cX10_setCount 59 = .ok (.iload 4, 2) := by decide +kernel
theorem dX10_setCount_61 : decode cX10_setCount 61 = .ok (.ireturn, 1) := by decide +kernel
theorem dX10_setAlignment_0 : decode cX10_setAlignment 0 = .ok (.iload_n 1, 1) := by decide +kernel
theorem dX10_setAlignment_1 : decode cX10_setAlignment 1 = .ok (.iconst 1, 1) := by decide +kernel
theorem dX10_setAlignment_2 : decode cX10_setAlignment 2 = .ok (.if_icmp .eq 28, 3) := by decide +kernel
theorem dX10_setAlignment_5 : decode cX10_setAlignment 5 = .ok (.iload_n 1, 1) := by decide +kernel
theorem dX10_setAlignment_6 : decode cX10_setAlignment 6 = .ok (.iconst 2, 1) := by decide +kernel
theorem dX10_setAlignment_7 : decode cX10_setAlignment 7 = .ok (.if_icmp .eq 23, 3) := by decide +kernel
theorem dX10_setAlignment_10 : decode cX10_setAlignment 10 = .ok (.iload_n 1, 1) := by decide +kernel
theorem dX10_setAlignment_11 : decode cX10_setAlignment 11 = .ok (.iconst 4, 1) := by decide +kernel
theorem dX10_setAlignment_12 : decode cX10_setAlignment 12 = .ok (.if_icmp .eq 18, 3) := by decide +kernel
theorem dX10_setAlignment_15 : decode cX10_setAlignment 15 = .ok (.iload_n 1, 1) := by decide +kernel
theorem dX10_setAlignment_16 : decode cX10_setAlignment 16 = .ok (.bipush 8, 2) := by decide +kernel
theorem dX10_setAlignment_18 : decode cX10_setAlignment 18 = .ok (.if_icmp .eq 12, 3) := by decide +kernel
theorem dX10_setAlignment_21 : decode cX10_setAlignment 21 = .ok (.iload_n 1, 1) := by decide +kernel
theorem dX10_setAlignment_22 : decode cX10_setAlignment 22 = .ok (.bipush 16, 2) := by decide +kernel
theorem dX10_setAlignment_24 : decode cX10_setAlignment 24 = .ok (.if_icmp .eq 6, 3) := by decide +kernel
theorem dX10_setAlignment_27 : decode cX10_setAlignment 27 = .ok (.bipush (-2), 2) := by decide +kernel
theorem dX10_setAlignment_29 : decode cX10_setAlignment 29 = .ok (.ireturn, 1) := by decide +kernel
theorem dX10_setAlignment_30 : decode cX10_setAlignment 30 = .ok (.aload_n 0, 1) := by decide +kernel
theorem dX10_setAlignment_31 : decode cX10_setAlignment 31 = .ok (.invokevirtual 150, 3) := by decide +kernel
theorem dX10_setAlignment_34 : decode cX10_setAlignment 34 = .ok (.aload_n 0, 1) := by decide +kernel
theorem dX10_setAlignment_35 : decode cX10_setAlignment 35 = .ok (.getfield 16, 3) := by decide +kernel
theorem dX10_setAlignment_38 : decode cX10_setAlignment 38 = .ok (.iconst 1, 1) := by decide +kernel
theorem dX10_setAlignment_39 : decode cX10_setAlignment 39 = .ok (.iaload, 1) := by decide +kernel
theorem dX10_setAlignment_40 : decode cX10_setAlignment 40 = .ok (.istore_n 2, 1) := by decide +kernel
theorem dX10_setAlignment_41 : decode cX10_setAlignment 41 = .ok (.aload_n 0, 1) := by decide +kernel
theorem dX10_setAlignment_42 : decode cX10_setAlignment 42 = .ok (.getfield 16, 3) := by decide +kernel
theorem dX10_setAlignment_45 : decode cX10_setAlignment 45 = .ok (.iconst 1, 1) := by decide +kernel
theorem dX10_setAlignment_46 : decode cX10_setAlignment 46 = .ok (.iload_n 1, 1) := by decide +kernel
theorem dX10_setAlignment_47 : decode cX10_setAlignment 47 = .ok (.iastore, 1) := by decide +kernel
theorem dX10_setAlignment_48 : decode cX10_setAlignment 48 = .ok (.iload_n 2, 1) := by decide +kernel
theorem dX10_setAlignment_49 : decode cX10_setAlignment 49 = .ok (.ireturn, 1) := by decide +kernel
theorem dX10_undo_0 : decode cX10_undo 0 = .ok (.aload_n 0, 1) := by decide +kernel
theorem dX10_undo_1 : decode cX10_undo 1 = .ok (.getfield 104, 3) := by decide +kernel
theorem dX10_undo_4 : decode cX10_undo 4 = .ok (.ifCond .ne 6, 3) := by decide +kernel
theorem dX10_undo_7 : decode cX10_undo 7 = .ok (.bipush (-3), 2) := by decide +kernel
theorem dX10_undo_9 : decode cX10_undo 9 = .ok (.ireturn, 1) := by decide +kernel
theorem dX10_undo_10 : decode cX10_undo 10 = .ok (.aload_n 0, 1) := by decide +kernel
theorem dX10_undo_11 : decode cX10_undo 11 = .ok (.dup, 1) := by decide +kernel
theorem dX10_undo_12 : decode cX10_undo 12 = .ok (.getfield 104, 3) := by decide +kernel
theorem dX10_undo_15 : decode cX10_undo 15 = .ok (.iconst 1, 1) := by decide +kernel
theorem dX10_undo_16 : decode cX10_undo 16 = .ok (.isub, 1) := by decide +kernel
theorem dX10_undo_17 : decode cX10_undo 17 = .ok (.putfield 104, 3) := by decide +kernel
theorem dX10_undo_20 : decode cX10_undo 20 = .ok (.aload_n 0, 1) := by decide +kernel
theorem dX10_undo_21 : decode cX10_undo 21 = .ok (.aload_n 0, 1) := by decide +kernel
theorem dX10_undo_22 : decode cX10_undo 22 = .ok (.getfield 171, 3) := by decide +kernel
theorem dX10_undo_25 : decode cX10_undo 25 = .ok (.bipush 14, 2) := by decide +kernel
theorem dX10_undo_27 : decode cX10_undo 27 = .ok (.iadd, 1) := by decide +kernel
theorem dX10_undo_28 : decode cX10_undo 28 = .ok (.iconst 1, 1) := by decide +kernel
theorem dX10_undo_29 : decode cX10_undo 29 = .ok (.isub, 1) := by decide +kernel
theorem dX10_undo_30 : decode cX10_undo 30 = .ok (.bipush 14, 2) := by decide +kernel
theorem dX10_undo_32 : decode cX10_undo 32 = .ok (.irem, 1) := by decide +kernel
theorem dX10_undo_33 : decode cX10_undo 33 = .ok (.putfield 171, 3) := by decide +kernel
theorem dX10_undo_36 : decode cX10_undo 36 = .ok (.iconst 0, 1) := by decide +kernel
theorem dX10_undo_37 : decode cX10_undo 37 = .ok (.istore_n 1, 1) := by decide +kernel
theorem dX10_undo_38 : decode cX10_undo 38 = .ok (.iload_n 1, 1) := by decide +kernel
theorem dX10_undo_39 : decode cX10_undo 39 = .ok (.bipush 50, 2) := by decide +kernel
theorem dX10_undo_41 : decode cX10_undo 41 = .ok (.if_icmp .ge 29, 3) := by decide +kernel
theorem dX10_undo_44 : decode cX10_undo 44 = .ok (.aload_n 0, 1) := by decide +kernel
theorem dX10_undo_45 : decode cX10_undo 45 = .ok (.getfield 16, 3) := by decide +kernel
theorem dX10_undo_48 : decode cX10_undo 48 = .ok (.iload_n 1, 1) := by decide +kernel
theorem dX10_undo_49 : decode cX10_undo 49 = .ok (.aload_n 0, 1) := by decide +kernel
theorem dX10_undo_50 : decode cX10_undo 50 = .ok (.getfield 25, 3) := by decide +kernel
theorem dX10_undo_53 : decode cX10_undo 53 = .ok (.bipush 50, 2) := by decide +kernel
theorem dX10_undo_55 : decode cX10_undo 55 = .ok (.aload_n 0, 1) := by decide +kernel
theorem dX10_undo_56 : decode cX10_undo 56 = .ok (.getfield 171, 3) := by decide +kernel
theorem dX10_undo_59 : decode cX10_undo 59 = .ok (.imul, 1) := by decide +kernel
theorem dX10_undo_60 : decode cX10_undo 60 = .ok (.iload_n 1, 1) := by decide +kernel
theorem dX10_undo_61 : decode cX10_undo 61 = .ok (.iadd, 1) := by decide +kernel
theorem dX10_undo_62 : decode cX10_undo 62 = .ok (.iaload, 1) := by decide +kernel
theorem dX10_undo_63 : decode cX10_undo 63 = .ok (.iastore, 1) := by decide +kernel
theorem dX10_undo_64 : decode cX10_undo 64 = .ok (.iinc 1 1, 3) := by decide +kernel
theorem dX10_undo_67 : decode cX10_undo 67 = .ok (.goto (-29), 3) := by decide +kernel
theorem dX10_undo_70 : decode cX10_undo 70 = .ok (.aload_n 0, 1) := by decide +kernel
theorem dX10_undo_71 : decode cX10_undo 71 = .ok (.getfield 104, 3) := by decide +kernel
theorem dX10_undo_74 : decode cX10_undo 74 = .ok (.ireturn, 1) := by decide +kernel
theorem dX10_command_0 : decode cX10_command 0 = .ok (.iload_n 1, 1) := by decide +kernel
theorem dX10_command_1 : decode cX10_command 1 = .ok (.tableswitch 325 1 8 #[47, 74, 105, 145, 178, 207, 244, 285], 47) := by decide +kernel
theorem dX10_command_48 : decode cX10_command 48 = .ok (.iload 4, 2) := by decide +kernel
theorem dX10_command_50 : decode cX10_command 50 = .ok (.ifCond .ne 12, 3) := by decide +kernel
theorem dX10_command_53 : decode cX10_command 53 = .ok (.aload_n 0, 1) := by decide +kernel
theorem dX10_command_54 : decode cX10_command 54 = .ok (.iload_n 2, 1) := by decide +kernel
theorem dX10_command_55 : decode cX10_command 55 = .ok (.iload_n 3, 1) := by decide +kernel
theorem dX10_command_56 : decode cX10_command 56 = .ok (.invokevirtual 174, 3) := by decide +kernel
theorem dX10_command_59 : decode cX10_command 59 = .ok (.ifCond .eq 5, 3) := by decide +kernel
theorem dX10_command_62 : decode cX10_command 62 = .ok (.iconst 0, 1) := by decide +kernel
theorem dX10_command_63 : decode cX10_command 63 = .ok (.ireturn, 1) := by decide +kernel
theorem dX10_command_64 : decode cX10_command 64 = .ok (.aload_n 0, 1) := by decide +kernel
theorem dX10_command_65 : decode cX10_command 65 = .ok (.getfield 19, 3) := by decide +kernel
theorem dX10_command_68 : decode cX10_command 68 = .ok (.iload_n 2, 1) := by decide +kernel
theorem dX10_command_69 : decode cX10_command 69 = .ok (.iload_n 3, 1) := by decide +kernel
theorem dX10_command_70 : decode cX10_command 70 = .ok (.invokestatic 177, 3) := by decide +kernel
theorem dX10_command_73 : decode cX10_command 73 = .ok (.iconst 1, 1) := by decide +kernel
theorem dX10_command_74 : decode cX10_command 74 = .ok (.ireturn, 1) := by decide +kernel
theorem dX10_command_75 : decode cX10_command 75 = .ok (.iload 4, 2) := by decide +kernel
theorem dX10_command_77 : decode cX10_command 77 = .ok (.ifCond .ne 16, 3) := by decide +kernel
theorem dX10_command_80 : decode cX10_command 80 = .ok (.aload_n 0, 1) := by decide +kernel
theorem dX10_command_81 : decode cX10_command 81 = .ok (.aload_n 0, 1) := by decide +kernel
theorem dX10_command_82 : decode cX10_command 82 = .ok (.getfield 19, 3) := by decide +kernel
theorem dX10_command_85 : decode cX10_command 85 = .ok (.iload_n 2, 1) := by decide +kernel
theorem dX10_command_86 : decode cX10_command 86 = .ok (.iload_n 3, 1) := by decide +kernel
theorem dX10_command_87 : decode cX10_command 87 = .ok (.invokevirtual 164, 3) := by decide +kernel
theorem dX10_command_90 : decode cX10_command 90 = .ok (.ifCond .eq 5, 3) := by decide +kernel
theorem dX10_command_93 : decode cX10_command 93 = .ok (.iconst 0, 1) := by decide +kernel
theorem dX10_command_94 : decode cX10_command 94 = .ok (.ireturn, 1) := by decide +kernel
theorem dX10_command_95 : decode cX10_command 95 = .ok (.aload_n 0, 1) := by decide +kernel
theorem dX10_command_96 : decode cX10_command 96 = .ok (.getfield 19, 3) := by decide +kernel
theorem dX10_command_99 : decode cX10_command 99 = .ok (.iload_n 2, 1) := by decide +kernel
theorem dX10_command_100 : decode cX10_command 100 = .ok (.iload_n 3, 1) := by decide +kernel
theorem dX10_command_101 : decode cX10_command 101 = .ok (.invokestatic 181, 3) := by decide +kernel
theorem dX10_command_104 : decode cX10_command 104 = .ok (.iconst 1, 1) := by decide +kernel
theorem dX10_command_105 : decode cX10_command 105 = .ok (.ireturn, 1) := by decide +kernel
theorem dX10_command_106 : decode cX10_command 106 = .ok (.iload_n 2, 1) := by decide +kernel
theorem dX10_command_107 : decode cX10_command 107 = .ok (.ifCond .ne 13, 3) := by decide +kernel
theorem dX10_command_110 : decode cX10_command 110 = .ok (.bipush 10, 2) := by decide +kernel
theorem dX10_command_112 : decode cX10_command 112 = .ok (.iload_n 3, 1) := by decide +kernel
theorem dX10_command_113 : decode cX10_command 113 = .ok (.imul, 1) := by decide +kernel
theorem dX10_command_114 : decode cX10_command 114 = .ok (.iload 4, 2) := by decide +kernel
theorem dX10_command_116 : decode cX10_command 116 = .ok (.iadd, 1) := by decide +kernel
theorem dX10_command_117 : decode cX10_command 117 = .ok (.ifCond .ne 5, 3) := by decide +kernel
theorem dX10_command_120 : decode cX10_command 120 = .ok (.iconst 0, 1) := by decide +kernel
theorem dX10_command_121 : decode cX10_command 121 = .ok (.ireturn, 1) := by decide +kernel
theorem dX10_command_122 : decode cX10_command 122 = .ok (.aload_n 0, 1) := by decide +kernel
theorem dX10_command_123 : decode cX10_command 123 = .ok (.aload_n 0, 1) := by decide +kernel
theorem dX10_command_124 : decode cX10_command 124 = .ok (.getfield 19, 3) := by decide +kernel
theorem dX10_command_127 : decode cX10_command 127 = .ok (.bipush 10, 2) := by decide +kernel
theorem dX10_command_129 : decode cX10_command 129 = .ok (.iload_n 3, 1) := by decide +kernel
theorem dX10_command_130 : decode cX10_command 130 = .ok (.imul, 1) := by decide +kernel
theorem dX10_command_131 : decode cX10_command 131 = .ok (.iload 4, 2) := by decide +kernel
theorem dX10_command_133 : decode cX10_command 133 = .ok (.iadd, 1) := by decide +kernel
theorem dX10_command_134 : decode cX10_command 134 = .ok (.invokevirtual 186, 3) := by decide +kernel
theorem dX10_command_137 : decode cX10_command 137 = .ok (.ifCond .le 7, 3) := by decide +kernel
theorem dX10_command_140 : decode cX10_command 140 = .ok (.iconst 1, 1) := by decide +kernel
theorem dX10_command_141 : decode cX10_command 141 = .ok (.goto 4, 3) := by decide +kernel
theorem dX10_command_144 : decode cX10_command 144 = .ok (.iconst 0, 1) := by decide +kernel
theorem dX10_command_145 : decode cX10_command 145 = .ok (.ireturn, 1) := by decide +kernel
theorem dX10_command_146 : decode cX10_command 146 = .ok (.aload_n 0, 1) := by decide +kernel
theorem dX10_command_147 : decode cX10_command 147 = .ok (.iload_n 2, 1) := by decide +kernel
theorem dX10_command_148 : decode cX10_command 148 = .ok (.invokevirtual 61, 3) := by decide +kernel
theorem dX10_command_151 : decode cX10_command 151 = .ok (.ifCond .eq 26, 3) := by decide +kernel
theorem dX10_command_154 : decode cX10_command 154 = .ok (.aload_n 0, 1) := by decide +kernel
theorem dX10_command_155 : decode cX10_command 155 = .ok (.aload_n 0, 1) := by decide +kernel
theorem dX10_command_156 : decode cX10_command 156 = .ok (.getfield 19, 3) := by decide +kernel
theorem dX10_command_159 : decode cX10_command 159 = .ok (.iload_n 2, 1) := by decide +kernel
theorem dX10_command_160 : decode cX10_command 160 = .ok (.invokevirtual 144, 3) := by decide +kernel
theorem dX10_command_163 : decode cX10_command 163 = .ok (.bipush 10, 2) := by decide +kernel
theorem dX10_command_165 : decode cX10_command 165 = .ok (.iload_n 3, 1) := by decide +kernel
theorem dX10_command_166 : decode cX10_command 166 = .ok (.imul, 1) := by decide +kernel
theorem dX10_command_167 : decode cX10_command 167 = .ok (.iload 4, 2) := by decide +kernel
theorem dX10_command_169 : decode cX10_command 169 = .ok (.iadd, 1) := by decide +kernel
theorem dX10_command_170 : decode cX10_command 170 = .ok (.if_icmp .ne 7, 3) := by decide +kernel
theorem dX10_command_173 : decode cX10_command 173 = .ok (.iconst 1, 1) := by decide +kernel
theorem dX10_command_174 : decode cX10_command 174 = .ok (.goto 4, 3) := by decide +kernel
theorem dX10_command_177 : decode cX10_command 177 = .ok (.iconst 0, 1) := by decide +kernel
theorem dX10_command_178 : decode cX10_command 178 = .ok (.ireturn, 1) := by decide +kernel
theorem dX10_command_179 : decode cX10_command 179 = .ok (.aload_n 0, 1) := by decide +kernel
theorem dX10_command_180 : decode cX10_command 180 = .ok (.aload_n 0, 1) := by decide +kernel
theorem dX10_command_181 : decode cX10_command 181 = .ok (.getfield 19, 3) := by decide +kernel
theorem dX10_command_184 : decode cX10_command 184 = .ok (.invokevirtual 140, 3) := by decide +kernel
theorem dX10_command_187 : decode cX10_command 187 = .ok (.bipush 100, 2) := by decide +kernel
theorem dX10_command_189 : decode cX10_command 189 = .ok (.iload_n 2, 1) := by decide +kernel
theorem dX10_command_190 : decode cX10_command 190 = .ok (.imul, 1) := by decide +kernel
theorem dX10_command_191 : decode cX10_command 191 = .ok (.bipush 10, 2) := by decide +kernel
theorem dX10_command_193 : decode cX10_command 193 = .ok (.iload_n 3, 1) := by decide +kernel
theorem dX10_command_194 : decode cX10_command 194 = .ok (.imul, 1) := by decide +kernel
theorem dX10_command_195 : decode cX10_command 195 = .ok (.iadd, 1) := by decide +kernel
theorem dX10_command_196 : decode cX10_command 196 = .ok (.iload 4, 2) := by decide +kernel
theorem dX10_command_198 : decode cX10_command 198 = .ok (.iadd, 1) := by decide +kernel
theorem dX10_command_199 : decode cX10_command 199 = .ok (.if_icmp .ne 7, 3) := by decide +kernel
theorem dX10_command_202 : decode cX10_command 202 = .ok (.iconst 1, 1) := by decide +kernel
theorem dX10_command_203 : decode cX10_command 203 = .ok (.goto 4, 3) := by decide +kernel
theorem dX10_command_206 : decode cX10_command 206 = .ok (.iconst 0, 1) := by decide +kernel
theorem dX10_command_207 : decode cX10_command 207 = .ok (.ireturn, 1) := by decide +kernel
theorem dX10_command_208 : decode cX10_command 208 = .ok (.aload_n 0, 1) := by decide +kernel
theorem dX10_command_209 : decode cX10_command 209 = .ok (.aload_n 0, 1) := by decide +kernel
theorem dX10_command_210 : decode cX10_command 210 = .ok (.getfield 19, 3) := by decide +kernel
theorem dX10_command_213 : decode cX10_command 213 = .ok (.iconst 0, 1) := by decide +kernel
theorem dX10_command_214 : decode cX10_command 214 = .ok (.invokevirtual 144, 3) := by decide +kernel
theorem dX10_command_217 : decode cX10_command 217 = .ok (.ifCond .ne 26, 3) := by decide +kernel
theorem dX10_command_220 : decode cX10_command 220 = .ok (.aload_n 0, 1) := by decide +kernel
theorem dX10_command_221 : decode cX10_command 221 = .ok (.getfield 134, 3) := by decide +kernel
theorem dX10_command_224 : decode cX10_command 224 = .ok (.bipush 100, 2) := by decide +kernel
theorem dX10_command_226 : decode cX10_command 226 = .ok (.iload_n 2, 1) := by decide +kernel
theorem dX10_command_227 : decode cX10_command 227 = .ok (.imul, 1) := by decide +kernel
theorem dX10_command_228 : decode cX10_command 228 = .ok (.bipush 10, 2) := by decide +kernel
theorem dX10_command_230 : decode cX10_command 230 = .ok (.iload_n 3, 1) := by decide +kernel
theorem dX10_command_231 : decode cX10_command 231 = .ok (.imul, 1) := by decide +kernel
theorem dX10_command_232 : decode cX10_command 232 = .ok (.iadd, 1) := by decide +kernel
theorem dX10_command_233 : decode cX10_command 233 = .ok (.iload 4, 2) := by decide +kernel
theorem dX10_command_235 : decode cX10_command 235 = .ok (.iadd, 1) := by decide +kernel
theorem dX10_command_236 : decode cX10_command 236 = .ok (.if_icmp .ne 7, 3) := by decide +kernel
theorem dX10_command_239 : decode cX10_command 239 = .ok (.iconst 1, 1) := by decide +kernel
theorem dX10_command_240 : decode cX10_command 240 = .ok (.goto 4, 3) := by decide +kernel
theorem dX10_command_243 : decode cX10_command 243 = .ok (.iconst 0, 1) := by decide +kernel
theorem dX10_command_244 : decode cX10_command 244 = .ok (.ireturn, 1) := by decide +kernel
theorem dX10_command_245 : decode cX10_command 245 = .ok (.iload_n 3, 1) := by decide +kernel
theorem dX10_command_246 : decode cX10_command 246 = .ok (.ifCond .ne 20, 3) := by decide +kernel
theorem dX10_command_249 : decode cX10_command 249 = .ok (.iload 4, 2) := by decide +kernel
theorem dX10_command_251 : decode cX10_command 251 = .ok (.ifCond .ne 15, 3) := by decide +kernel
theorem dX10_command_254 : decode cX10_command 254 = .ok (.aload_n 0, 1) := by decide +kernel
theorem dX10_command_255 : decode cX10_command 255 = .ok (.aload_n 0, 1) := by decide +kernel
theorem dX10_command_256 : decode cX10_command 256 = .ok (.getfield 19, 3) := by decide +kernel
theorem dX10_command_259 : decode cX10_command 259 = .ok (.iload_n 2, 1) := by decide +kernel
theorem dX10_command_260 : decode cX10_command 260 = .ok (.invokevirtual 189, 3) := by decide +kernel
theorem dX10_command_263 : decode cX10_command 263 = .ok (.ifCond .eq 5, 3) := by decide +kernel
theorem dX10_command_266 : decode cX10_command 266 = .ok (.iconst 0, 1) := by decide +kernel
theorem dX10_command_267 : decode cX10_command 267 = .ok (.ireturn, 1) := by decide +kernel
theorem dX10_command_268 : decode cX10_command 268 = .ok (.aload_n 0, 1) := by decide +kernel
theorem dX10_command_269 : decode cX10_command 269 = .ok (.aload_n 0, 1) := by decide +kernel
theorem dX10_command_270 : decode cX10_command 270 = .ok (.getfield 19, 3) := by decide +kernel
theorem dX10_command_273 : decode cX10_command 273 = .ok (.iload_n 2, 1) := by decide +kernel
theorem dX10_command_274 : decode cX10_command 274 = .ok (.invokevirtual 192, 3) := by decide +kernel
theorem dX10_command_277 : decode cX10_command 277 = .ok (.ifCond .lt 7, 3) := by decide +kernel
theorem dX10_command_280 : decode cX10_command 280 = .ok (.iconst 1, 1) := by decide +kernel
theorem dX10_command_281 : decode cX10_command 281 = .ok (.goto 4, 3) := by decide +kernel
theorem dX10_command_284 : decode cX10_command 284 = .ok (.iconst 0, 1) := by decide +kernel
theorem dX10_command_285 : decode cX10_command 285 = .ok (.ireturn, 1) := by decide +kernel
theorem dX10_command_286 : decode cX10_command 286 = .ok (.iload 4, 2) := by decide +kernel
theorem dX10_command_288 : decode cX10_command 288 = .ok (.ifCond .ne 36, 3) := by decide +kernel
theorem dX10_command_291 : decode cX10_command 291 = .ok (.aload_n 0, 1) := by decide +kernel
theorem dX10_command_292 : decode cX10_command 292 = .ok (.iload_n 2, 1) := by decide +kernel
theorem dX10_command_293 : decode cX10_command 293 = .ok (.invokevirtual 61, 3) := by decide +kernel
theorem dX10_command_296 : decode cX10_command 296 = .ok (.ifCond .eq 28, 3) := by decide +kernel
theorem dX10_command_299 : decode cX10_command 299 = .ok (.aload_n 0, 1) := by decide +kernel
theorem dX10_command_300 : decode cX10_command 300 = .ok (.iload_n 3, 1) := by decide +kernel
theorem dX10_command_301 : decode cX10_command 301 = .ok (.invokevirtual 61, 3) := by decide +kernel
theorem dX10_command_304 : decode cX10_command 304 = .ok (.ifCond .eq 20, 3) := by decide +kernel
theorem dX10_command_307 : decode cX10_command 307 = .ok (.aload_n 0, 1) := by decide +kernel
theorem dX10_command_308 : decode cX10_command 308 = .ok (.aload_n 0, 1) := by decide +kernel
theorem dX10_command_309 : decode cX10_command 309 = .ok (.getfield 19, 3) := by decide +kernel
theorem dX10_command_312 : decode cX10_command 312 = .ok (.iload_n 2, 1) := by decide +kernel
theorem dX10_command_313 : decode cX10_command 313 = .ok (.invokevirtual 117, 3) := by decide +kernel
theorem dX10_command_316 : decode cX10_command 316 = .ok (.iload_n 3, 1) := by decide +kernel
theorem dX10_command_317 : decode cX10_command 317 = .ok (.if_icmp .ne 7, 3) := by decide +kernel
theorem dX10_command_320 : decode cX10_command 320 = .ok (.iconst 1, 1) := by decide +kernel
theorem dX10_command_321 : decode cX10_command 321 = .ok (.goto 4, 3) := by decide +kernel
theorem dX10_command_324 : decode cX10_command 324 = .ok (.iconst 0, 1) := by decide +kernel
theorem dX10_command_325 : decode cX10_command 325 = .ok (.ireturn, 1) := by decide +kernel
theorem dX10_command_326 : decode cX10_command 326 = .ok (.iconst 0, 1) := by decide +kernel
theorem dX10_command_327 : decode cX10_command 327 = .ok (.ireturn, 1) := by decide +kernel
theorem dX10_tenThousands_0 : decode cX10_tenThousands 0 = .ok (.lconst 1, 1) := by decide +kernel
theorem dX10_tenThousands_1 : decode cX10_tenThousands 1 = .ok (.lstore_n 1, 1) := by decide +kernel
theorem dX10_tenThousands_2 : decode cX10_tenThousands 2 = .ok (.iconst 0, 1) := by decide +kernel
theorem dX10_tenThousands_3 : decode cX10_tenThousands 3 = .ok (.istore_n 3, 1) := by decide +kernel
theorem dX10_tenThousands_4 : decode cX10_tenThousands 4 = .ok (.iload_n 3, 1) := by decide +kernel
theorem dX10_tenThousands_5 : decode cX10_tenThousands 5 = .ok (.iload_n 0, 1) := by decide +kernel
theorem dX10_tenThousands_6 : decode cX10_tenThousands 6 = .ok (.if_icmp .ge 15, 3) := by decide +kernel
theorem dX10_tenThousands_9 : decode cX10_tenThousands 9 = .ok (.lload_n 1, 1) := by decide +kernel
theorem dX10_tenThousands_10 : decode cX10_tenThousands 10 = .ok (.ldc2_w 195, 3) := by decide +kernel
theorem dX10_tenThousands_13 : decode cX10_tenThousands 13 = .ok (.lmul, 1) := by decide +kernel
theorem dX10_tenThousands_14 : decode cX10_tenThousands 14 = .ok (.lstore_n 1, 1) := by decide +kernel
theorem dX10_tenThousands_15 : decode cX10_tenThousands 15 = .ok (.iinc 3 1, 3) := by decide +kernel
theorem dX10_tenThousands_18 : decode cX10_tenThousands 18 = .ok (.goto (-14), 3) := by decide +kernel
theorem dX10_tenThousands_21 : decode cX10_tenThousands 21 = .ok (.lload_n 1, 1) := by decide +kernel
theorem dX10_tenThousands_22 : decode cX10_tenThousands 22 = .ok (.lreturn, 1) := by decide +kernel
theorem dX10_runScript_0 : decode cX10_runScript 0 = .ok (.iload_n 1, 1) := by decide +kernel
theorem dX10_runScript_1 : decode cX10_runScript 1 = .ok (.i2l, 1) := by decide +kernel
theorem dX10_runScript_2 : decode cX10_runScript 2 = .ok (.lconst 1, 1) := by decide +kernel
theorem dX10_runScript_3 : decode cX10_runScript 3 = .ok (.ldc2_w 197, 3) := by decide +kernel
theorem dX10_runScript_6 : decode cX10_runScript 6 = .ok (.invokestatic 57, 3) := by decide +kernel
theorem dX10_runScript_9 : decode cX10_runScript 9 = .ok (.ifCond .eq 17, 3) := by decide +kernel
theorem dX10_runScript_12 : decode cX10_runScript 12 = .ok (.lload_n 2, 1) := by decide +kernel
theorem dX10_runScript_13 : decode cX10_runScript 13 = .ok (.lconst 0, 1) := by decide +kernel
theorem dX10_runScript_14 : decode cX10_runScript 14 = .ok (.iload_n 1, 1) := by decide +kernel
theorem dX10_runScript_15 : decode cX10_runScript 15 = .ok (.invokestatic 199, 3) := by decide +kernel
theorem dX10_runScript_18 : decode cX10_runScript 18 = .ok (.lconst 1, 1) := by decide +kernel
theorem dX10_runScript_19 : decode cX10_runScript 19 = .ok (.lsub, 1) := by decide +kernel
theorem dX10_runScript_20 : decode cX10_runScript 20 = .ok (.invokestatic 57, 3) := by decide +kernel
theorem dX10_runScript_23 : decode cX10_runScript 23 = .ok (.ifCond .ne 6, 3) := by decide +kernel
theorem dX10_runScript_26 : decode cX10_runScript 26 = .ok (.bipush (-2), 2) := by decide +kernel
theorem dX10_runScript_28 : decode cX10_runScript 28 = .ok (.ireturn, 1) := by decide +kernel
theorem dX10_runScript_29 : decode cX10_runScript 29 = .ok (.aload_n 0, 1) := by decide +kernel
theorem dX10_runScript_30 : decode cX10_runScript 30 = .ok (.getfield 16, 3) := by decide +kernel
theorem dX10_runScript_33 : decode cX10_runScript 33 = .ok (.aload_n 0, 1) := by decide +kernel
theorem dX10_runScript_34 : decode cX10_runScript 34 = .ok (.getfield 19, 3) := by decide +kernel
theorem dX10_runScript_37 : decode cX10_runScript 37 = .ok (.invokestatic 100, 3) := by decide +kernel
theorem dX10_runScript_40 : decode cX10_runScript 40 = .ok (.iconst 0, 1) := by decide +kernel
theorem dX10_runScript_41 : decode cX10_runScript 41 = .ok (.istore 4, 2) := by decide +kernel
theorem dX10_runScript_43 : decode cX10_runScript 43 = .ok (.iload 4, 2) := by decide +kernel
theorem dX10_runScript_45 : decode cX10_runScript 45 = .ok (.iload_n 1, 1) := by decide +kernel
theorem dX10_runScript_46 : decode cX10_runScript 46 = .ok (.if_icmp .ge 64, 3) := by decide +kernel
theorem dX10_runScript_49 : decode cX10_runScript 49 = .ok (.lload_n 2, 1) := by decide +kernel
theorem dX10_runScript_50 : decode cX10_runScript 50 = .ok (.iload_n 1, 1) := by decide +kernel
theorem dX10_runScript_51 : decode cX10_runScript 51 = .ok (.iconst 1, 1) := by decide +kernel
theorem dX10_runScript_52 : decode cX10_runScript 52 = .ok (.isub, 1) := by decide +kernel
theorem dX10_runScript_53 : decode cX10_runScript 53 = .ok (.iload 4, 2) := by decide +kernel
theorem dX10_runScript_55 : decode cX10_runScript 55 = .ok (.isub, 1) := by decide +kernel
theorem dX10_runScript_56 : decode cX10_runScript 56 = .ok (.invokestatic 199, 3) := by decide +kernel
theorem dX10_runScript_59 : decode cX10_runScript 59 = .ok (.ldiv, 1) := by decide +kernel
theorem dX10_runScript_60 : decode cX10_runScript 60 = .ok (.ldc2_w 195, 3) := by decide +kernel
theorem dX10_runScript_63 : decode cX10_runScript 63 = .ok (.lrem, 1) := by decide +kernel
theorem dX10_runScript_64 : decode cX10_runScript 64 = .ok (.l2i, 1) := by decide +kernel
theorem dX10_runScript_65 : decode cX10_runScript 65 = .ok (.istore 5, 2) := by decide +kernel
theorem dX10_runScript_67 : decode cX10_runScript 67 = .ok (.aload_n 0, 1) := by decide +kernel
theorem dX10_runScript_68 : decode cX10_runScript 68 = .ok (.iload 5, 2) := by decide +kernel
theorem dX10_runScript_70 : decode cX10_runScript 70 = .ok (.sipush 1000, 3) := by decide +kernel
theorem dX10_runScript_73 : decode cX10_runScript 73 = .ok (.idiv, 1) := by decide +kernel
theorem dX10_runScript_74 : decode cX10_runScript 74 = .ok (.iload 5, 2) := by decide +kernel
theorem dX10_runScript_76 : decode cX10_runScript 76 = .ok (.bipush 100, 2) := by decide +kernel
theorem dX10_runScript_78 : decode cX10_runScript 78 = .ok (.idiv, 1) := by decide +kernel
theorem dX10_runScript_79 : decode cX10_runScript 79 = .ok (.bipush 10, 2) := by decide +kernel
theorem dX10_runScript_81 : decode cX10_runScript 81 = .ok (.irem, 1) := by decide +kernel
theorem dX10_runScript_82 : decode cX10_runScript 82 = .ok (.iload 5, 2) := by decide +kernel
theorem dX10_runScript_84 : decode cX10_runScript 84 = .ok (.bipush 10, 2) := by decide +kernel
theorem dX10_runScript_86 : decode cX10_runScript 86 = .ok (.idiv, 1) := by decide +kernel
theorem dX10_runScript_87 : decode cX10_runScript 87 = .ok (.bipush 10, 2) := by decide +kernel
theorem dX10_runScript_89 : decode cX10_runScript 89 = .ok (.irem, 1) := by decide +kernel
theorem dX10_runScript_90 : decode cX10_runScript 90 = .ok (.iload 5, 2) := by decide +kernel
theorem dX10_runScript_92 : decode cX10_runScript 92 = .ok (.bipush 10, 2) := by decide +kernel
theorem dX10_runScript_94 : decode cX10_runScript 94 = .ok (.irem, 1) := by decide +kernel
theorem dX10_runScript_95 : decode cX10_runScript 95 = .ok (.invokevirtual 203, 3) := by decide +kernel
theorem dX10_runScript_98 : decode cX10_runScript 98 = .ok (.ifCond .ne 6, 3) := by decide +kernel
theorem dX10_runScript_101 : decode cX10_runScript 101 = .ok (.iload 4, 2) := by decide +kernel
theorem dX10_runScript_103 : decode cX10_runScript 103 = .ok (.ireturn, 1) := by decide +kernel
theorem dX10_runScript_104 : decode cX10_runScript 104 = .ok (.iinc 4 1, 3) := by decide +kernel
theorem dX10_runScript_107 : decode cX10_runScript 107 = .ok (.goto (-64), 3) := by decide +kernel
theorem dX10_runScript_110 : decode cX10_runScript 110 = .ok (.bipush (-9), 2) := by decide +kernel
theorem dX10_runScript_112 : decode cX10_runScript 112 = .ok (.ireturn, 1) := by decide +kernel
theorem dX10_execute_0 : decode cX10_execute 0 = .ok (.iload_n 3, 1) := by decide +kernel
theorem dX10_execute_1 : decode cX10_execute 1 = .ok (.i2l, 1) := by decide +kernel
theorem dX10_execute_2 : decode cX10_execute 2 = .ok (.lconst 1, 1) := by decide +kernel
theorem dX10_execute_3 : decode cX10_execute 3 = .ok (.ldc2_w 184, 3) := by decide +kernel
theorem dX10_execute_6 : decode cX10_execute 6 = .ok (.invokestatic 57, 3) := by decide +kernel
theorem dX10_execute_9 : decode cX10_execute 9 = .ok (.ifCond .ne 6, 3) := by decide +kernel
theorem dX10_execute_12 : decode cX10_execute 12 = .ok (.bipush (-2), 2) := by decide +kernel
theorem dX10_execute_14 : decode cX10_execute 14 = .ok (.ireturn, 1) := by decide +kernel
theorem dX10_execute_15 : decode cX10_execute 15 = .ok (.lload_n 1, 1) := by decide +kernel
theorem dX10_execute_16 : decode cX10_execute 16 = .ok (.lstore 4, 2) := by decide +kernel
theorem dX10_execute_18 : decode cX10_execute 18 = .ok (.iconst 0, 1) := by decide +kernel
theorem dX10_execute_19 : decode cX10_execute 19 = .ok (.istore 6, 2) := by decide +kernel
theorem dX10_execute_21 : decode cX10_execute 21 = .ok (.iconst 0, 1) := by decide +kernel
theorem dX10_execute_22 : decode cX10_execute 22 = .ok (.istore 7, 2) := by decide +kernel
theorem dX10_execute_24 : decode cX10_execute 24 = .ok (.iconst 0, 1) := by decide +kernel
theorem dX10_execute_25 : decode cX10_execute 25 = .ok (.istore 8, 2) := by decide +kernel
theorem dX10_execute_27 : decode cX10_execute 27 = .ok (.iload 8, 2) := by decide +kernel
theorem dX10_execute_29 : decode cX10_execute 29 = .ok (.iload_n 3, 1) := by decide +kernel
theorem dX10_execute_30 : decode cX10_execute 30 = .ok (.if_icmp .ge 151, 3) := by decide +kernel
theorem dX10_execute_33 : decode cX10_execute 33 = .ok (.lload 4, 2) := by decide +kernel
theorem dX10_execute_35 : decode cX10_execute 35 = .ok (.ldc2_w 207, 3) := by decide +kernel
theorem dX10_execute_38 : decode cX10_execute 38 = .ok (.lmul, 1) := by decide +kernel
theorem dX10_execute_39 : decode cX10_execute 39 = .ok (.ldc2_w 209, 3) := by decide +kernel
theorem dX10_execute_42 : decode cX10_execute 42 = .ok (.ladd, 1) := by decide +kernel
theorem dX10_execute_43 : decode cX10_execute 43 = .ok (.lstore 4, 2) := by decide +kernel
theorem dX10_execute_45 : decode cX10_execute 45 = .ok (.lload 4, 2) := by decide +kernel
theorem dX10_execute_47 : decode cX10_execute 47 = .ok (.bipush 33, 2) := by decide +kernel
theorem dX10_execute_49 : decode cX10_execute 49 = .ok (.lushr, 1) := by decide +kernel
theorem dX10_execute_50 : decode cX10_execute 50 = .ok (.l2i, 1) := by decide +kernel
theorem dX10_execute_51 : decode cX10_execute 51 = .ok (.istore 9, 2) := by decide +kernel
theorem dX10_execute_53 : decode cX10_execute 53 = .ok (.aload_n 0, 1) := by decide +kernel
theorem dX10_execute_54 : decode cX10_execute 54 = .ok (.getfield 16, 3) := by decide +kernel
theorem dX10_execute_57 : decode cX10_execute 57 = .ok (.bipush 10, 2) := by decide +kernel
theorem dX10_execute_59 : decode cX10_execute 59 = .ok (.iload 6, 2) := by decide +kernel
theorem dX10_execute_61 : decode cX10_execute 61 = .ok (.iadd, 1) := by decide +kernel
theorem dX10_execute_62 : decode cX10_execute 62 = .ok (.iaload, 1) := by decide +kernel
theorem dX10_execute_63 : decode cX10_execute 63 = .ok (.istore 10, 2) := by decide +kernel
theorem dX10_execute_65 : decode cX10_execute 65 = .ok (.iload 10, 2) := by decide +kernel
theorem dX10_execute_67 : decode cX10_execute 67 = .ok (.ifCond .ne 9, 3) := by decide +kernel
theorem dX10_execute_70 : decode cX10_execute 70 = .ok (.iconst 0, 1) := by decide +kernel
theorem dX10_execute_71 : decode cX10_execute 71 = .ok (.istore 6, 2) := by decide +kernel
theorem dX10_execute_73 : decode cX10_execute 73 = .ok (.goto 102, 3) := by decide +kernel
theorem dX10_execute_76 : decode cX10_execute 76 = .ok (.aload_n 0, 1) := by decide +kernel
theorem dX10_execute_77 : decode cX10_execute 77 = .ok (.getfield 16, 3) := by decide +kernel
theorem dX10_execute_80 : decode cX10_execute 80 = .ok (.bipush 34, 2) := by decide +kernel
theorem dX10_execute_82 : decode cX10_execute 82 = .ok (.iconst 2, 1) := by decide +kernel
theorem dX10_execute_83 : decode cX10_execute 83 = .ok (.iload 6, 2) := by decide +kernel
theorem dX10_execute_85 : decode cX10_execute 85 = .ok (.imul, 1) := by decide +kernel
theorem dX10_execute_86 : decode cX10_execute 86 = .ok (.iadd, 1) := by decide +kernel
theorem dX10_execute_87 : decode cX10_execute 87 = .ok (.iaload, 1) := by decide +kernel
theorem dX10_execute_88 : decode cX10_execute 88 = .ok (.istore 11, 2) := by decide +kernel
theorem dX10_execute_90 : decode cX10_execute 90 = .ok (.iload 10, 2) := by decide +kernel
theorem dX10_execute_92 : decode cX10_execute 92 = .ok (.iconst 1, 1) := by decide +kernel
theorem dX10_execute_93 : decode cX10_execute 93 = .ok (.if_icmp .ne 7, 3) := by decide +kernel
theorem dX10_execute_96 : decode cX10_execute 96 = .ok (.iconst 0, 1) := by decide +kernel
theorem dX10_execute_97 : decode cX10_execute 97 = .ok (.goto 20, 3) := by decide +kernel
theorem dX10_execute_100 : decode cX10_execute 100 = .ok (.iload 11, 2) := by decide +kernel
theorem dX10_execute_102 : decode cX10_execute 102 = .ok (.aload_n 0, 1) := by decide +kernel
theorem dX10_execute_103 : decode cX10_execute 103 = .ok (.getfield 16, 3) := by decide +kernel
theorem dX10_execute_106 : decode cX10_execute 106 = .ok (.bipush 34, 2) := by decide +kernel
theorem dX10_execute_108 : decode cX10_execute 108 = .ok (.iconst 2, 1) := by decide +kernel
theorem dX10_execute_109 : decode cX10_execute 109 = .ok (.iload 6, 2) := by decide +kernel
theorem dX10_execute_111 : decode cX10_execute 111 = .ok (.imul, 1) := by decide +kernel
theorem dX10_execute_112 : decode cX10_execute 112 = .ok (.iadd, 1) := by decide +kernel
theorem dX10_execute_113 : decode cX10_execute 113 = .ok (.iconst 1, 1) := by decide +kernel
theorem dX10_execute_114 : decode cX10_execute 114 = .ok (.iadd, 1) := by decide +kernel
theorem dX10_execute_115 : decode cX10_execute 115 = .ok (.iaload, 1) := by decide +kernel
theorem dX10_execute_116 : decode cX10_execute 116 = .ok (.iadd, 1) := by decide +kernel
theorem dX10_execute_117 : decode cX10_execute 117 = .ok (.istore 12, 2) := by decide +kernel
theorem dX10_execute_119 : decode cX10_execute 119 = .ok (.iload 12, 2) := by decide +kernel
theorem dX10_execute_121 : decode cX10_execute 121 = .ok (.ifCond .eq 13, 3) := by decide +kernel
theorem dX10_execute_124 : decode cX10_execute 124 = .ok (.iload 9, 2) := by decide +kernel
theorem dX10_execute_126 : decode cX10_execute 126 = .ok (.iload 12, 2) := by decide +kernel
theorem dX10_execute_128 : decode cX10_execute 128 = .ok (.irem, 1) := by decide +kernel
theorem dX10_execute_129 : decode cX10_execute 129 = .ok (.iload 11, 2) := by decide +kernel
theorem dX10_execute_131 : decode cX10_execute 131 = .ok (.if_icmp .ge 7, 3) := by decide +kernel
theorem dX10_execute_134 : decode cX10_execute 134 = .ok (.iconst 0, 1) := by decide +kernel
theorem dX10_execute_135 : decode cX10_execute 135 = .ok (.goto 4, 3) := by decide +kernel
theorem dX10_execute_138 : decode cX10_execute 138 = .ok (.iconst 1, 1) := by decide +kernel
theorem dX10_execute_139 : decode cX10_execute 139 = .ok (.istore 13, 2) := by decide +kernel
theorem dX10_execute_141 : decode cX10_execute 141 = .ok (.iload 7, 2) := by decide +kernel
theorem dX10_execute_143 : decode cX10_execute 143 = .ok (.aload_n 0, 1) := by decide +kernel
theorem dX10_execute_144 : decode cX10_execute 144 = .ok (.aload_n 0, 1) := by decide +kernel
theorem dX10_execute_145 : decode cX10_execute 145 = .ok (.getfield 16, 3) := by decide +kernel
theorem dX10_execute_148 : decode cX10_execute 148 = .ok (.iload 6, 2) := by decide +kernel
theorem dX10_execute_150 : decode cX10_execute 150 = .ok (.iload 13, 2) := by decide +kernel
theorem dX10_execute_152 : decode cX10_execute 152 = .ok (.invokevirtual 120, 3) := by decide +kernel
theorem dX10_execute_155 : decode cX10_execute 155 = .ok (.iadd, 1) := by decide +kernel
theorem dX10_execute_156 : decode cX10_execute 156 = .ok (.istore 7, 2) := by decide +kernel
theorem dX10_execute_158 : decode cX10_execute 158 = .ok (.aload_n 0, 1) := by decide +kernel
theorem dX10_execute_159 : decode cX10_execute 159 = .ok (.getfield 16, 3) := by decide +kernel
theorem dX10_execute_162 : decode cX10_execute 162 = .ok (.bipush 18, 2) := by decide +kernel
theorem dX10_execute_164 : decode cX10_execute 164 = .ok (.iconst 2, 1) := by decide +kernel
theorem dX10_execute_165 : decode cX10_execute 165 = .ok (.iload 6, 2) := by decide +kernel
theorem dX10_execute_167 : decode cX10_execute 167 = .ok (.imul, 1) := by decide +kernel
theorem dX10_execute_168 : decode cX10_execute 168 = .ok (.iadd, 1) := by decide +kernel
theorem dX10_execute_169 : decode cX10_execute 169 = .ok (.iload 13, 2) := by decide +kernel
theorem dX10_execute_171 : decode cX10_execute 171 = .ok (.iadd, 1) := by decide +kernel
theorem dX10_execute_172 : decode cX10_execute 172 = .ok (.iaload, 1) := by decide +kernel
theorem dX10_execute_173 : decode cX10_execute 173 = .ok (.istore 6, 2) := by decide +kernel
theorem dX10_execute_175 : decode cX10_execute 175 = .ok (.iinc 8 1, 3) := by decide +kernel
theorem dX10_execute_178 : decode cX10_execute 178 = .ok (.goto (-151), 3) := by decide +kernel
theorem dX10_execute_181 : decode cX10_execute 181 = .ok (.iload 7, 2) := by decide +kernel
theorem dX10_execute_183 : decode cX10_execute 183 = .ok (.ireturn, 1) := by decide +kernel
theorem dX10_save_0 : decode cX10_save 0 = .ok (.iload_n 1, 1) := by decide +kernel
theorem dX10_save_1 : decode cX10_save 1 = .ok (.i2l, 1) := by decide +kernel
theorem dX10_save_2 : decode cX10_save 2 = .ok (.lconst 0, 1) := by decide +kernel
theorem dX10_save_3 : decode cX10_save 3 = .ok (.lconst 1, 1) := by decide +kernel
theorem dX10_save_4 : decode cX10_save 4 = .ok (.invokestatic 57, 3) := by decide +kernel
theorem dX10_save_7 : decode cX10_save 7 = .ok (.ifCond .ne 5, 3) := by decide +kernel
theorem dX10_save_10 : decode cX10_save 10 = .ok (.iconst (-1), 1) := by decide +kernel
theorem dX10_save_11 : decode cX10_save 11 = .ok (.ireturn, 1) := by decide +kernel
theorem dX10_save_12 : decode cX10_save 12 = .ok (.aload_n 0, 1) := by decide +kernel
theorem dX10_save_13 : decode cX10_save 13 = .ok (.getfield 31, 3) := by decide +kernel
theorem dX10_save_16 : decode cX10_save 16 = .ok (.iload_n 1, 1) := by decide +kernel
theorem dX10_save_17 : decode cX10_save 17 = .ok (.iconst 1, 1) := by decide +kernel
theorem dX10_save_18 : decode cX10_save 18 = .ok (.bastore, 1) := by decide +kernel
theorem dX10_save_19 : decode cX10_save 19 = .ok (.iconst 0, 1) := by decide +kernel
theorem dX10_save_20 : decode cX10_save 20 = .ok (.istore_n 2, 1) := by decide +kernel
theorem dX10_save_21 : decode cX10_save 21 = .ok (.iload_n 2, 1) := by decide +kernel
theorem dX10_save_22 : decode cX10_save 22 = .ok (.bipush 50, 2) := by decide +kernel
theorem dX10_save_24 : decode cX10_save 24 = .ok (.if_icmp .ge 26, 3) := by decide +kernel
theorem dX10_save_27 : decode cX10_save 27 = .ok (.aload_n 0, 1) := by decide +kernel
theorem dX10_save_28 : decode cX10_save 28 = .ok (.getfield 28, 3) := by decide +kernel
theorem dX10_save_31 : decode cX10_save 31 = .ok (.bipush 50, 2) := by decide +kernel
theorem dX10_save_33 : decode cX10_save 33 = .ok (.iload_n 1, 1) := by decide +kernel
theorem dX10_save_34 : decode cX10_save 34 = .ok (.imul, 1) := by decide +kernel
theorem dX10_save_35 : decode cX10_save 35 = .ok (.iload_n 2, 1) := by decide +kernel
theorem dX10_save_36 : decode cX10_save 36 = .ok (.iadd, 1) := by decide +kernel
theorem dX10_save_37 : decode cX10_save 37 = .ok (.aload_n 0, 1) := by decide +kernel
theorem dX10_save_38 : decode cX10_save 38 = .ok (.getfield 16, 3) := by decide +kernel
theorem dX10_save_41 : decode cX10_save 41 = .ok (.iload_n 2, 1) := by decide +kernel
theorem dX10_save_42 : decode cX10_save 42 = .ok (.iaload, 1) := by decide +kernel
theorem dX10_save_43 : decode cX10_save 43 = .ok (.iastore, 1) := by decide +kernel
theorem dX10_save_44 : decode cX10_save 44 = .ok (.iinc 2 1, 3) := by decide +kernel
theorem dX10_save_47 : decode cX10_save 47 = .ok (.goto (-26), 3) := by decide +kernel
theorem dX10_save_50 : decode cX10_save 50 = .ok (.aload_n 0, 1) := by decide +kernel
theorem dX10_save_51 : decode cX10_save 51 = .ok (.getfield 16, 3) := by decide +kernel
theorem dX10_save_54 : decode cX10_save 54 = .ok (.iconst 0, 1) := by decide +kernel
theorem dX10_save_55 : decode cX10_save 55 = .ok (.iaload, 1) := by decide +kernel
theorem dX10_save_56 : decode cX10_save 56 = .ok (.ireturn, 1) := by decide +kernel
theorem dX10_restore_0 : decode cX10_restore 0 = .ok (.iload_n 1, 1) := by decide +kernel
theorem dX10_restore_1 : decode cX10_restore 1 = .ok (.i2l, 1) := by decide +kernel
theorem dX10_restore_2 : decode cX10_restore 2 = .ok (.lconst 0, 1) := by decide +kernel
theorem dX10_restore_3 : decode cX10_restore 3 = .ok (.lconst 1, 1) := by decide +kernel
theorem dX10_restore_4 : decode cX10_restore 4 = .ok (.invokestatic 57, 3) := by decide +kernel
theorem dX10_restore_7 : decode cX10_restore 7 = .ok (.ifCond .ne 5, 3) := by decide +kernel
theorem dX10_restore_10 : decode cX10_restore 10 = .ok (.iconst (-1), 1) := by decide +kernel
theorem dX10_restore_11 : decode cX10_restore 11 = .ok (.ireturn, 1) := by decide +kernel
theorem dX10_restore_12 : decode cX10_restore 12 = .ok (.aload_n 0, 1) := by decide +kernel
theorem dX10_restore_13 : decode cX10_restore 13 = .ok (.getfield 31, 3) := by decide +kernel
theorem dX10_restore_16 : decode cX10_restore 16 = .ok (.iload_n 1, 1) := by decide +kernel
theorem dX10_restore_17 : decode cX10_restore 17 = .ok (.baload, 1) := by decide +kernel
theorem dX10_restore_18 : decode cX10_restore 18 = .ok (.ifCond .ne 6, 3) := by decide +kernel
theorem dX10_restore_21 : decode cX10_restore 21 = .ok (.bipush (-3), 2) := by decide +kernel
theorem dX10_restore_23 : decode cX10_restore 23 = .ok (.ireturn, 1) := by decide +kernel
theorem dX10_restore_24 : decode cX10_restore 24 = .ok (.iconst 0, 1) := by decide +kernel
theorem dX10_restore_25 : decode cX10_restore 25 = .ok (.istore_n 2, 1) := by decide +kernel
theorem dX10_restore_26 : decode cX10_restore 26 = .ok (.iload_n 2, 1) := by decide +kernel
theorem dX10_restore_27 : decode cX10_restore 27 = .ok (.bipush 50, 2) := by decide +kernel
theorem dX10_restore_29 : decode cX10_restore 29 = .ok (.if_icmp .ge 26, 3) := by decide +kernel
theorem dX10_restore_32 : decode cX10_restore 32 = .ok (.aload_n 0, 1) := by decide +kernel
theorem dX10_restore_33 : decode cX10_restore 33 = .ok (.getfield 16, 3) := by decide +kernel
theorem dX10_restore_36 : decode cX10_restore 36 = .ok (.iload_n 2, 1) := by decide +kernel
theorem dX10_restore_37 : decode cX10_restore 37 = .ok (.aload_n 0, 1) := by decide +kernel
theorem dX10_restore_38 : decode cX10_restore 38 = .ok (.getfield 28, 3) := by decide +kernel
theorem dX10_restore_41 : decode cX10_restore 41 = .ok (.bipush 50, 2) := by decide +kernel
theorem dX10_restore_43 : decode cX10_restore 43 = .ok (.iload_n 1, 1) := by decide +kernel
theorem dX10_restore_44 : decode cX10_restore 44 = .ok (.imul, 1) := by decide +kernel
theorem dX10_restore_45 : decode cX10_restore 45 = .ok (.iload_n 2, 1) := by decide +kernel
theorem dX10_restore_46 : decode cX10_restore 46 = .ok (.iadd, 1) := by decide +kernel
theorem dX10_restore_47 : decode cX10_restore 47 = .ok (.iaload, 1) := by decide +kernel
theorem dX10_restore_48 : decode cX10_restore 48 = .ok (.iastore, 1) := by decide +kernel
theorem dX10_restore_49 : decode cX10_restore 49 = .ok (.iinc 2 1, 3) := by decide +kernel
theorem dX10_restore_52 : decode cX10_restore 52 = .ok (.goto (-26), 3) := by decide +kernel
theorem dX10_restore_55 : decode cX10_restore 55 = .ok (.aload_n 0, 1) := by decide +kernel
theorem dX10_restore_56 : decode cX10_restore 56 = .ok (.iconst 0, 1) := by decide +kernel
theorem dX10_restore_57 : decode cX10_restore 57 = .ok (.putfield 104, 3) := by decide +kernel
theorem dX10_restore_60 : decode cX10_restore 60 = .ok (.aload_n 0, 1) := by decide +kernel
theorem dX10_restore_61 : decode cX10_restore 61 = .ok (.getfield 16, 3) := by decide +kernel
theorem dX10_restore_64 : decode cX10_restore 64 = .ok (.iconst 0, 1) := by decide +kernel
theorem dX10_restore_65 : decode cX10_restore 65 = .ok (.iaload, 1) := by decide +kernel
theorem dX10_restore_66 : decode cX10_restore 66 = .ok (.ireturn, 1) := by decide +kernel
