theorem dX7_init_0 : decode cX7_init 0 = .ok (.aload_n 0, 1) := by decide +kernel
theorem dX7_init_1 : decode cX7_init 1 = .ok (.invokespecial 3, 3) := by decide +kernel
theorem dX7_init_4 : decode cX7_init 4 = .ok (.aload_n 0, 1) := by decide +kernel
theorem dX7_init_5 : decode cX7_init 5 = .ok (.bipush 8, 2) := by decide +kernel
theorem dX7_init_7 : decode cX7_init 7 = .ok (.newarray .int, 2) := by decide +kernel
theorem dX7_init_9 : decode cX7_init 9 = .ok (.putfield 9, 3) := by decide +kernel
theorem dX7_init_12 : decode cX7_init 12 = .ok (.aload_n 0, 1) := by decide +kernel
theorem dX7_init_13 : decode cX7_init 13 = .ok (.bipush 16, 2) := by decide +kernel
theorem dX7_init_15 : decode cX7_init 15 = .ok (.newarray .int, 2) := by decide +kernel
theorem dX7_init_17 : decode cX7_init 17 = .ok (.putfield 15, 3) := by decide +kernel
theorem dX7_init_20 : decode cX7_init 20 = .ok (.aload_n 0, 1) := by decide +kernel
theorem dX7_init_21 : decode cX7_init 21 = .ok (.bipush 16, 2) := by decide +kernel
theorem dX7_init_23 : decode cX7_init 23 = .ok (.newarray .int, 2) := by decide +kernel
theorem dX7_init_25 : decode cX7_init 25 = .ok (.putfield 18, 3) := by decide +kernel
theorem dX7_init_28 : decode cX7_init 28 = .ok (.aload_n 0, 1) := by decide +kernel
theorem dX7_init_29 : decode cX7_init 29 = .ok (.bipush 8, 2) := by decide +kernel
theorem dX7_init_31 : decode cX7_init 31 = .ok (.newarray .int, 2) := by decide +kernel
theorem dX7_init_33 : decode cX7_init 33 = .ok (.putfield 21, 3) := by decide +kernel
theorem dX7_init_36 : decode cX7_init 36 = .ok (.aload_n 0, 1) := by decide +kernel
theorem dX7_init_37 : decode cX7_init 37 = .ok (.iconst 1, 1) := by decide +kernel
theorem dX7_init_38 : decode cX7_init 38 = .ok (.putfield 24, 3) := by decide +kernel
theorem dX7_init_41 : decode cX7_init 41 = .ok (.aload_n 0, 1) := by decide +kernel
theorem dX7_init_42 : decode cX7_init 42 = .ok (.iconst 1, 1) := by decide +kernel
theorem dX7_init_43 : decode cX7_init 43 = .ok (.putfield 28, 3) := by decide +kernel
theorem dX7_init_46 : decode cX7_init 46 = .ok (.aload_n 0, 1) := by decide +kernel
theorem dX7_init_47 : decode cX7_init 47 = .ok (.aload_n 1, 1) := by decide +kernel
theorem dX7_init_48 : decode cX7_init 48 = .ok (.putfield 31, 3) := by decide +kernel
theorem dX7_init_51 : decode cX7_init 51 = .ok (.return_, 1) := by decide +kernel
theorem dX7_copyFrom_0 : decode cX7_copyFrom 0 = .ok (.aload_n 1, 1) := by decide +kernel
theorem dX7_copyFrom_1 : decode cX7_copyFrom 1 = .ok (.getfield 9, 3) := by decide +kernel
theorem dX7_copyFrom_4 : decode cX7_copyFrom 4 = .ok (.iconst 0, 1) := by decide +kernel
theorem dX7_copyFrom_5 : decode cX7_copyFrom 5 = .ok (.aload_n 0, 1) := by decide +kernel
theorem dX7_copyFrom_6 : decode cX7_copyFrom 6 = .ok (.getfield 9, 3) := by decide +kernel
theorem dX7_copyFrom_9 : decode cX7_copyFrom 9 = .ok (.iconst 0, 1) := by decide +kernel
theorem dX7_copyFrom_10 : decode cX7_copyFrom 10 = .ok (.bipush 8, 2) := by decide +kernel
theorem dX7_copyFrom_12 : decode cX7_copyFrom 12 = .ok (.invokestatic 35, 3) := by decide +kernel
theorem dX7_copyFrom_15 : decode cX7_copyFrom 15 = .ok (.aload_n 1, 1) := by decide +kernel
theorem dX7_copyFrom_16 : decode cX7_copyFrom 16 = .ok (.getfield 15, 3) := by decide +kernel
theorem dX7_copyFrom_19 : decode cX7_copyFrom 19 = .ok (.iconst 0, 1) := by decide +kernel
theorem dX7_copyFrom_20 : decode cX7_copyFrom 20 = .ok (.aload_n 0, 1) := by decide +kernel
theorem dX7_copyFrom_21 : decode cX7_copyFrom 21 = .ok (.getfield 15, 3) := by decide +kernel
theorem dX7_copyFrom_24 : decode cX7_copyFrom 24 = .ok (.iconst 0, 1) := by decide +kernel
theorem dX7_copyFrom_25 : decode cX7_copyFrom 25 = .ok (.bipush 16, 2) := by decide +kernel
theorem dX7_copyFrom_27 : decode cX7_copyFrom 27 = .ok (.invokestatic 35, 3) := by decide +kernel
theorem dX7_copyFrom_30 : decode cX7_copyFrom 30 = .ok (.aload_n 1, 1) := by decide +kernel
theorem dX7_copyFrom_31 : decode cX7_copyFrom 31 = .ok (.getfield 18, 3) := by decide +kernel
theorem dX7_copyFrom_34 : decode cX7_copyFrom 34 = .ok (.iconst 0, 1) := by decide +kernel
theorem dX7_copyFrom_35 : decode cX7_copyFrom 35 = .ok (.aload_n 0, 1) := by decide +kernel
theorem dX7_copyFrom_36 : decode cX7_copyFrom 36 = .ok (.getfield 18, 3) := by decide +kernel
theorem dX7_copyFrom_39 : decode cX7_copyFrom 39 = .ok (.iconst 0, 1) := by decide +kernel
theorem dX7_copyFrom_40 : decode cX7_copyFrom 40 = .ok (.bipush 16, 2) := by decide +kernel
theorem dX7_copyFrom_42 : decode cX7_copyFrom 42 = .ok (.invokestatic 35, 3) := by decide +kernel
theorem dX7_copyFrom_45 : decode cX7_copyFrom 45 = .ok (.aload_n 1, 1) := by decide +kernel
theorem dX7_copyFrom_46 : decode cX7_copyFrom 46 = .ok (.getfield 21, 3) := by decide +kernel
theorem dX7_copyFrom_49 : decode cX7_copyFrom 49 = .ok (.iconst 0, 1) := by decide +kernel
theorem dX7_copyFrom_50 : decode cX7_copyFrom 50 = .ok (.aload_n 0, 1) := by decide +kernel
theorem dX7_copyFrom_51 : decode cX7_copyFrom 51 = .ok (.getfield 21, 3) := by decide +kernel
theorem dX7_copyFrom_54 : decode cX7_copyFrom 54 = .ok (.iconst 0, 1) := by decide +kernel
theorem dX7_copyFrom_55 : decode cX7_copyFrom 55 = .ok (.bipush 8, 2) := by decide +kernel
theorem dX7_copyFrom_57 : decode cX7_copyFrom 57 = .ok (.invokestatic 35, 3) := by decide +kernel
theorem dX7_copyFrom_60 : decode cX7_copyFrom 60 = .ok (.aload_n 0, 1) := by decide +kernel
theorem dX7_copyFrom_61 : decode cX7_copyFrom 61 = .ok (.aload_n 1, 1) := by decide +kernel
theorem dX7_copyFrom_62 : decode cX7_copyFrom 62 = .ok (.getfield 24, 3) := by decide +kernel
theorem dX7_copyFrom_65 : decode cX7_copyFrom 65 = .ok (.putfield 24, 3) := by decide +kernel
theorem dX7_copyFrom_68 : decode cX7_copyFrom 68 = .ok (.aload_n 0, 1) := by decide +kernel
theorem dX7_copyFrom_69 : decode cX7_copyFrom 69 = .ok (.aload_n 1, 1) := by decide +kernel
theorem dX7_copyFrom_70 : decode cX7_copyFrom 70 = .ok (.getfield 28, 3) := by decide +kernel
theorem dX7_copyFrom_73 : decode cX7_copyFrom 73 = .ok (.putfield 28, 3) := by decide +kernel
theorem dX7_copyFrom_76 : decode cX7_copyFrom 76 = .ok (.return_, 1) := by decide +kernel
theorem dX7_layOutByNumber_0 : decode cX7_layOutByNumber 0 = .ok (.iconst 0, 1) := by decide +kernel
theorem dX7_layOutByNumber_1 : decode cX7_layOutByNumber 1 = .ok (.istore_n 1, 1) := by decide +kernel
theorem dX7_layOutByNumber_2 : decode cX7_layOutByNumber 2 = .ok (.iload_n 1, 1) := by decide +kernel
theorem dX7_layOutByNumber_3 : decode cX7_layOutByNumber 3 = .ok (.bipush 8, 2) := by decide +kernel
theorem dX7_layOutByNumber_5 : decode cX7_layOutByNumber 5 = .ok (.if_icmp .ge 16, 3) := by decide +kernel
theorem dX7_layOutByNumber_8 : decode cX7_layOutByNumber 8 = .ok (.aload_n 0, 1) := by decide +kernel
theorem dX7_layOutByNumber_9 : decode cX7_layOutByNumber 9 = .ok (.getfield 21, 3) := by decide +kernel
theorem dX7_layOutByNumber_12 : decode cX7_layOutByNumber 12 = .ok (.iload_n 1, 1) := by decide +kernel
theorem dX7_layOutByNumber_13 : decode cX7_layOutByNumber 13 = .ok (.iload_n 1, 1) := by decide +kernel
theorem dX7_layOutByNumber_14 : decode cX7_layOutByNumber 14 = .ok (.iastore, 1) := by decide +kernel
theorem dX7_layOutByNumber_15 : decode cX7_layOutByNumber 15 = .ok (.iinc 1 1, 3) := by decide +kernel
theorem dX7_layOutByNumber_18 : decode cX7_layOutByNumber 18 = .ok (.goto (-16), 3) := by decide +kernel
theorem dX7_layOutByNumber_21 : decode cX7_layOutByNumber 21 = .ok (.aload_n 0, 1) := by decide +kernel
theorem dX7_layOutByNumber_22 : decode cX7_layOutByNumber 22 = .ok (.aload_n 0, 1) := by decide +kernel
theorem dX7_layOutByNumber_23 : decode cX7_layOutByNumber 23 = .ok (.getfield 31, 3) := by decide +kernel
theorem dX7_layOutByNumber_26 : decode cX7_layOutByNumber 26 = .ok (.getfield 41, 3) := by decide +kernel
theorem dX7_layOutByNumber_29 : decode cX7_layOutByNumber 29 = .ok (.putfield 24, 3) := by decide +kernel
theorem dX7_layOutByNumber_32 : decode cX7_layOutByNumber 32 = .ok (.aload_n 0, 1) := by decide +kernel
theorem dX7_layOutByNumber_33 : decode cX7_layOutByNumber 33 = .ok (.iconst 1, 1) := by decide +kernel
theorem dX7_layOutByNumber_34 : decode cX7_layOutByNumber 34 = .ok (.putfield 28, 3) := by decide +kernel
theorem dX7_layOutByNumber_37 : decode cX7_layOutByNumber 37 = .ok (.return_, 1) := by decide +kernel
theorem dX7_hasEdge_0 : decode cX7_hasEdge 0 = .ok (.aload_n 0, 1) := by decide +kernel
theorem dX7_hasEdge_1 : decode cX7_hasEdge 1 = .ok (.getfield 31, 3) := by decide +kernel
theorem dX7_hasEdge_4 : decode cX7_hasEdge 4 = .ok (.iload_n 1, 1) := by decide +kernel
theorem dX7_hasEdge_5 : decode cX7_hasEdge 5 = .ok (.invokevirtual 46, 3) := by decide +kernel
theorem dX7_hasEdge_8 : decode cX7_hasEdge 8 = .ok (.ifCond .eq 21, 3) := by decide +kernel
theorem dX7_hasEdge_11 : decode cX7_hasEdge 11 = .ok (.iload_n 2, 1) := by decide +kernel
theorem dX7_hasEdge_12 : decode cX7_hasEdge 12 = .ok (.ifCond .lt 17, 3) := by decide +kernel
theorem dX7_hasEdge_15 : decode cX7_hasEdge 15 = .ok (.iload_n 2, 1) := by decide +kernel
theorem dX7_hasEdge_16 : decode cX7_hasEdge 16 = .ok (.aload_n 0, 1) := by decide +kernel
theorem dX7_hasEdge_17 : decode cX7_hasEdge 17 = .ok (.getfield 9, 3) := by decide +kernel
theorem dX7_hasEdge_20 : decode cX7_hasEdge 20 = .ok (.iload_n 1, 1) := by decide +kernel
theorem dX7_hasEdge_21 : decode cX7_hasEdge 21 = .ok (.iaload, 1) := by decide +kernel
theorem dX7_hasEdge_22 : decode cX7_hasEdge 22 = .ok (.if_icmp .ge 7, 3) := by decide +kernel
theorem dX7_hasEdge_25 : decode cX7_hasEdge 25 = .ok (.iconst 1, 1) := by decide +kernel
theorem dX7_hasEdge_26 : decode cX7_hasEdge 26 = .ok (.goto 4, 3) := by decide +kernel
theorem dX7_hasEdge_29 : decode cX7_hasEdge 29 = .ok (.iconst 0, 1) := by decide +kernel
theorem dX7_hasEdge_30 : decode cX7_hasEdge 30 = .ok (.ireturn, 1) := by decide +kernel
theorem dX7_target_0 : decode cX7_target 0 = .ok (.aload_n 0, 1) := by decide +kernel
theorem dX7_target_1 : decode cX7_target 1 = .ok (.getfield 15, 3) := by decide +kernel
theorem dX7_target_4 : decode cX7_target 4 = .ok (.iconst 2, 1) := by decide +kernel
theorem dX7_target_5 : decode cX7_target 5 = .ok (.iload_n 1, 1) := by decide +kernel
theorem dX7_target_6 : decode cX7_target 6 = .ok (.imul, 1) := by decide +kernel
theorem dX7_target_7 : decode cX7_target 7 = .ok (.iload_n 2, 1) := by decide +kernel
theorem dX7_target_8 : decode cX7_target 8 = .ok (.iadd, 1) := by decide +kernel
theorem dX7_target_9 : decode cX7_target 9 = .ok (.iaload, 1) := by decide +kernel
theorem dX7_target_10 : decode cX7_target 10 = .ok (.ireturn, 1) := by decide +kernel
theorem dX7_count_0 : decode cX7_count 0 = .ok (.aload_n 0, 1) := by decide +kernel
theorem dX7_count_1 : decode cX7_count 1 = .ok (.getfield 18, 3) := by decide +kernel
theorem dX7_count_4 : decode cX7_count 4 = .ok (.iconst 2, 1) := by decide +kernel
theorem dX7_count_5 : decode cX7_count 5 = .ok (.iload_n 1, 1) := by decide +kernel
theorem dX7_count_6 : decode cX7_count 6 = .ok (.imul, 1) := by decide +kernel
theorem dX7_count_7 : decode cX7_count 7 = .ok (.iload_n 2, 1) := by decide +kernel
theorem dX7_count_8 : decode cX7_count 8 = .ok (.iadd, 1) := by decide +kernel
theorem dX7_count_9 : decode cX7_count 9 = .ok (.iaload, 1) := by decide +kernel
theorem dX7_count_10 : decode cX7_count 10 = .ok (.ireturn, 1) := by decide +kernel
theorem dX7_putTarget_0 : decode cX7_putTarget 0 = .ok (.aload_n 0, 1) := by decide +kernel
theorem dX7_putTarget_1 : decode cX7_putTarget 1 = .ok (.getfield 15, 3) := by decide +kernel
theorem dX7_putTarget_4 : decode cX7_putTarget 4 = .ok (.iconst 2, 1) := by decide +kernel
theorem dX7_putTarget_5 : decode cX7_putTarget 5 = .ok (.iload_n 1, 1) := by decide +kernel
theorem dX7_putTarget_6 : decode cX7_putTarget 6 = .ok (.imul, 1) := by decide +kernel
theorem dX7_putTarget_7 : decode cX7_putTarget 7 = .ok (.iload_n 2, 1) := by decide +kernel
theorem dX7_putTarget_8 : decode cX7_putTarget 8 = .ok (.iadd, 1) := by decide +kernel
theorem dX7_putTarget_9 : decode cX7_putTarget 9 = .ok (.iload_n 3, 1) := by decide +kernel
theorem dX7_putTarget_10 : decode cX7_putTarget 10 = .ok (.iastore, 1) := by decide +kernel
theorem dX7_putTarget_11 : decode cX7_putTarget 11 = .ok (.return_, 1) := by decide +kernel
theorem dX7_putCount_0 : decode cX7_putCount 0 = .ok (.aload_n 0, 1) := by decide +kernel
theorem dX7_putCount_1 : decode cX7_putCount 1 = .ok (.getfield 18, 3) := by decide +kernel
theorem dX7_putCount_4 : decode cX7_putCount 4 = .ok (.iconst 2, 1) := by decide +kernel
theorem dX7_putCount_5 : decode cX7_putCount 5 = .ok (.iload_n 1, 1) := by decide +kernel
theorem dX7_putCount_6 : decode cX7_putCount 6 = .ok (.imul, 1) := by decide +kernel
theorem dX7_putCount_7 : decode cX7_putCount 7 = .ok (.iload_n 2, 1) := by decide +kernel
theorem dX7_putCount_8 : decode cX7_putCount 8 = .ok (.iadd, 1) := by decide +kernel
theorem dX7_putCount_9 : decode cX7_putCount 9 = .ok (.iload_n 3, 1) := by decide +kernel
theorem dX7_putCount_10 : decode cX7_putCount 10 = .ok (.iastore, 1) := by decide +kernel
theorem dX7_putCount_11 : decode cX7_putCount 11 = .ok (.return_, 1) := by decide +kernel
theorem dX7_leadsTo_0 : decode cX7_leadsTo 0 = .ok (.iconst 0, 1) := by decide +kernel
theorem dX7_leadsTo_1 : decode cX7_leadsTo 1 = .ok (.istore_n 3, 1) := by decide +kernel
theorem dX7_leadsTo_2 : decode cX7_leadsTo 2 = .ok (.iload_n 3, 1) := by decide +kernel
theorem dX7_leadsTo_3 : decode cX7_leadsTo 3 = .ok (.aload_n 0, 1) := by decide +kernel
theorem dX7_leadsTo_4 : decode cX7_leadsTo 4 = .ok (.getfield 9, 3) := by decide +kernel
theorem dX7_leadsTo_7 : decode cX7_leadsTo 7 = .ok (.iload_n 1, 1) := by decide +kernel
theorem dX7_leadsTo_8 : decode cX7_leadsTo 8 = .ok (.iaload, 1) := by decide +kernel
theorem dX7_leadsTo_9 : decode cX7_leadsTo 9 = .ok (.if_icmp .ge 25, 3) := by decide +kernel
theorem dX7_leadsTo_12 : decode cX7_leadsTo 12 = .ok (.aload_n 0, 1) := by decide +kernel
theorem dX7_leadsTo_13 : decode cX7_leadsTo 13 = .ok (.getfield 15, 3) := by decide +kernel
theorem dX7_leadsTo_16 : decode cX7_leadsTo 16 = .ok (.iconst 2, 1) := by decide +kernel
theorem dX7_leadsTo_17 : decode cX7_leadsTo 17 = .ok (.iload_n 1, 1) := by decide +kernel
theorem dX7_leadsTo_18 : decode cX7_leadsTo 18 = .ok (.imul, 1) := by decide +kernel
theorem dX7_leadsTo_19 : decode cX7_leadsTo 19 = .ok (.iload_n 3, 1) := by decide +kernel
theorem dX7_leadsTo_20 : decode cX7_leadsTo 20 = .ok (.iadd, 1) := by decide +kernel
theorem dX7_leadsTo_21 : decode cX7_leadsTo 21 = .ok (.iaload, 1) := by decide +kernel
theorem dX7_leadsTo_22 : decode cX7_leadsTo 22 = .ok (.iload_n 2, 1) := by decide +kernel
theorem dX7_leadsTo_23 : decode cX7_leadsTo 23 = .ok (.if_icmp .ne 5, 3) := by decide +kernel
theorem dX7_leadsTo_26 : decode cX7_leadsTo 26 = .ok (.iconst 1, 1) := by decide +kernel
theorem dX7_leadsTo_27 : decode cX7_leadsTo 27 = .ok (.ireturn, 1) := by decide +kernel
theorem dX7_leadsTo_28 : decode cX7_leadsTo 28 = .ok (.iinc 3 1, 3) := by decide +kernel
theorem dX7_leadsTo_31 : decode cX7_leadsTo 31 = .ok (.goto (-29), 3) := by decide +kernel
theorem dX7_leadsTo_34 : decode cX7_leadsTo 34 = .ok (.iconst 0, 1) := by decide +kernel
theorem dX7_leadsTo_35 : decode cX7_leadsTo 35 = .ok (.ireturn, 1) := by decide +kernel
theorem dX7_runsOf_0 : decode cX7_runsOf 0 = .ok (.iload_n 1, 1) := by decide +kernel
theorem dX7_runsOf_1 : decode cX7_runsOf 1 = .ok (.ifCond .ne 13, 3) := by decide +kernel
theorem dX7_runsOf_4 : decode cX7_runsOf 4 = .ok (.aload_n 0, 1) := by decide +kernel
theorem dX7_runsOf_5 : decode cX7_runsOf 5 = .ok (.getfield 31, 3) := by decide +kernel
theorem dX7_runsOf_8 : decode cX7_runsOf 8 = .ok (.getfield 50, 3) := by decide +kernel
theorem dX7_runsOf_11 : decode cX7_runsOf 11 = .ok (.goto 4, 3) := by decide +kernel
theorem dX7_runsOf_14 : decode cX7_runsOf 14 = .ok (.iconst 0, 1) := by decide +kernel
theorem dX7_runsOf_15 : decode cX7_runsOf 15 = .ok (.istore_n 2, 1) := by decide +kernel
theorem dX7_runsOf_16 : decode cX7_runsOf 16 = .ok (.iconst 0, 1) := by decide +kernel
theorem dX7_runsOf_17 : decode cX7_runsOf 17 = .ok (.istore_n 3, 1) := by decide +kernel
theorem dX7_runsOf_18 : decode cX7_runsOf 18 = .ok (.iload_n 3, 1) := by decide +kernel
theorem dX7_runsOf_19 : decode cX7_runsOf 19 = .ok (.aload_n 0, 1) := by decide +kernel
theorem dX7_runsOf_20 : decode cX7_runsOf 20 = .ok (.getfield 31, 3) := by decide +kernel
theorem dX7_runsOf_23 : decode cX7_runsOf 23 = .ok (.getfield 41, 3) := by decide +kernel
theorem dX7_runsOf_26 : decode cX7_runsOf 26 = .ok (.if_icmp .ge 50, 3) := by decide +kernel
theorem dX7_runsOf_29 : decode cX7_runsOf 29 = .ok (.iconst 0, 1) := by decide +kernel
theorem dX7_runsOf_30 : decode cX7_runsOf 30 = .ok (.istore 4, 2) := by decide +kernel
theorem dX7_runsOf_32 : decode cX7_runsOf 32 = .ok (.iload 4, 2) := by decide +kernel
theorem dX7_runsOf_34 : decode cX7_runsOf 34 = .ok (.aload_n 0, 1) := by decide +kernel
theorem dX7_runsOf_35 : decode cX7_runsOf 35 = .ok (.getfield 9, 3) := by decide +kernel
theorem dX7_runsOf_38 : decode cX7_runsOf 38 = .ok (.iload_n 3, 1) := by decide +kernel
theorem dX7_runsOf_39 : decode cX7_runsOf 39 = .ok (.iaload, 1) := by decide +kernel
theorem dX7_runsOf_40 : decode cX7_runsOf 40 = .ok (.if_icmp .ge 30, 3) := by decide +kernel
theorem dX7_runsOf_43 : decode cX7_runsOf 43 = .ok (.aload_n 0, 1) := by decide +kernel
theorem dX7_runsOf_44 : decode cX7_runsOf 44 = .ok (.iload_n 3, 1) := by decide +kernel
theorem dX7_runsOf_45 : decode cX7_runsOf 45 = .ok (.iload 4, 2) := by decide +kernel
theorem dX7_runsOf_47 : decode cX7_runsOf 47 = .ok (.invokevirtual 53, 3) := by decide +kernel
theorem dX7_runsOf_50 : decode cX7_runsOf 50 = .ok (.iload_n 1, 1) := by decide +kernel
theorem dX7_runsOf_51 : decode cX7_runsOf 51 = .ok (.if_icmp .ne 13, 3) := by decide +kernel
theorem dX7_runsOf_54 : decode cX7_runsOf 54 = .ok (.iload_n 2, 1) := by decide +kernel
theorem dX7_runsOf_55 : decode cX7_runsOf 55 = .ok (.aload_n 0, 1) := by decide +kernel
theorem dX7_runsOf_56 : decode cX7_runsOf 56 = .ok (.iload_n 3, 1) := by decide +kernel
theorem dX7_runsOf_57 : decode cX7_runsOf 57 = .ok (.iload 4, 2) := by decide +kernel
theorem dX7_runsOf_59 : decode cX7_runsOf 59 = .ok (.invokevirtual 57, 3) := by decide +kernel
theorem dX7_runsOf_62 : decode cX7_runsOf 62 = .ok (.iadd, 1) := by decide +kernel
theorem dX7_runsOf_63 : decode cX7_runsOf 63 = .ok (.istore_n 2, 1) := by decide +kernel
theorem dX7_runsOf_64 : decode cX7_runsOf 64 = .ok (.iinc 4 1, 3) := by decide +kernel
theorem dX7_runsOf_67 : decode cX7_runsOf 67 = .ok (.goto (-35), 3) := by decide +kernel
theorem dX7_runsOf_70 : decode cX7_runsOf 70 = .ok (.iinc 3 1, 3) := by decide +kernel
theorem dX7_runsOf_73 : decode cX7_runsOf 73 = .ok (.goto (-55), 3) := by decide +kernel
theorem dX7_runsOf_76 : decode cX7_runsOf 76 = .ok (.iload_n 2, 1) := by decide +kernel
theorem dX7_runsOf_77 : decode cX7_runsOf 77 = .ok (.ireturn, 1) := by decide +kernel
theorem dX7_followerAt_0 : decode cX7_followerAt 0 = .ok (.iload_n 1, 1) := by decide +kernel
theorem dX7_followerAt_1 : decode cX7_followerAt 1 = .ok (.iconst 1, 1) := by decide +kernel
theorem dX7_followerAt_2 : decode cX7_followerAt 2 = .ok (.iadd, 1) := by decide +kernel
theorem dX7_followerAt_3 : decode cX7_followerAt 3 = .ok (.istore_n 2, 1) := by decide +kernel
theorem dX7_followerAt_4 : decode cX7_followerAt 4 = .ok (.iload_n 2, 1) := by decide +kernel
theorem dX7_followerAt_5 : decode cX7_followerAt 5 = .ok (.aload_n 0, 1) := by decide +kernel
theorem dX7_followerAt_6 : decode cX7_followerAt 6 = .ok (.getfield 24, 3) := by decide +kernel
theorem dX7_followerAt_9 : decode cX7_followerAt 9 = .ok (.if_icmp .eq 14, 3) := by decide +kernel
theorem dX7_followerAt_12 : decode cX7_followerAt 12 = .ok (.iload_n 2, 1) := by decide +kernel
theorem dX7_followerAt_13 : decode cX7_followerAt 13 = .ok (.aload_n 0, 1) := by decide +kernel
theorem dX7_followerAt_14 : decode cX7_followerAt 14 = .ok (.getfield 31, 3) := by decide +kernel
theorem dX7_followerAt_17 : decode cX7_followerAt 17 = .ok (.getfield 41, 3) := by decide +kernel
theorem dX7_followerAt_20 : decode cX7_followerAt 20 = .ok (.if_icmp .lt 7, 3) := by decide +kernel
theorem dX7_followerAt_23 : decode cX7_followerAt 23 = .ok (.iconst (-1), 1) := by decide +kernel
theorem dX7_followerAt_24 : decode cX7_followerAt 24 = .ok (.goto 9, 3) := by decide +kernel
theorem dX7_followerAt_27 : decode cX7_followerAt 27 = .ok (.aload_n 0, 1) := by decide +kernel
theorem dX7_followerAt_28 : decode cX7_followerAt 28 = .ok (.getfield 21, 3) := by decide +kernel
theorem dX7_followerAt_31 : decode cX7_followerAt 31 = .ok (.iload_n 2, 1) := by decide +kernel
theorem dX7_followerAt_32 : decode cX7_followerAt 32 = .ok (.iaload, 1) := by decide +kernel
theorem dX7_followerAt_33 : decode cX7_followerAt 33 = .ok (.ireturn, 1) := by decide +kernel
theorem dX7_followerOf_0 : decode cX7_followerOf 0 = .ok (.iconst 0, 1) := by decide +kernel
theorem dX7_followerOf_1 : decode cX7_followerOf 1 = .ok (.istore_n 2, 1) := by decide +kernel
theorem dX7_followerOf_2 : decode cX7_followerOf 2 = .ok (.iload_n 2, 1) := by decide +kernel
theorem dX7_followerOf_3 : decode cX7_followerOf 3 = .ok (.aload_n 0, 1) := by decide +kernel
theorem dX7_followerOf_4 : decode cX7_followerOf 4 = .ok (.getfield 31, 3) := by decide +kernel
theorem dX7_followerOf_7 : decode cX7_followerOf 7 = .ok (.getfield 41, 3) := by decide +kernel
theorem dX7_followerOf_10 : decode cX7_followerOf 10 = .ok (.if_icmp .ge 25, 3) := by decide +kernel
theorem dX7_followerOf_13 : decode cX7_followerOf 13 = .ok (.aload_n 0, 1) := by decide +kernel
theorem dX7_followerOf_14 : decode cX7_followerOf 14 = .ok (.getfield 21, 3) := by decide +kernel
theorem dX7_followerOf_17 : decode cX7_followerOf 17 = .ok (.iload_n 2, 1) := by decide +kernel
theorem dX7_followerOf_18 : decode cX7_followerOf 18 = .ok (.iaload, 1) := by decide +kernel
theorem dX7_followerOf_19 : decode cX7_followerOf 19 = .ok (.iload_n 1, 1) := by decide +kernel
theorem dX7_followerOf_20 : decode cX7_followerOf 20 = .ok (.if_icmp .ne 9, 3) := by decide +kernel
theorem dX7_followerOf_23 : decode cX7_followerOf 23 = .ok (.aload_n 0, 1) := by decide +kernel
theorem dX7_followerOf_24 : decode cX7_followerOf 24 = .ok (.iload_n 2, 1) := by decide +kernel
theorem dX7_followerOf_25 : decode cX7_followerOf 25 = .ok (.invokevirtual 60, 3) := by decide +kernel
theorem dX7_followerOf_28 : decode cX7_followerOf 28 = .ok (.ireturn, 1) := by decide +kernel
theorem dX7_followerOf_29 : decode cX7_followerOf 29 = .ok (.iinc 2 1, 3) := by decide +kernel
theorem dX7_followerOf_32 : decode cX7_followerOf 32 = .ok (.goto (-30), 3) := by decide +kernel
theorem dX7_followerOf_35 : decode cX7_followerOf 35 = .ok (.iconst (-1), 1) := by decide +kernel
theorem dX7_followerOf_36 : decode cX7_followerOf 36 = .ok (.ireturn, 1) := by decide +kernel
theorem dX7_branchBytesBefore_0 : decode cX7_branchBytesBefore 0 = .ok (.iconst 0, 1) := by decide +kernel
theorem dX7_branchBytesBefore_1 : decode cX7_branchBytesBefore 1 = .ok (.istore_n 3, 1) := by decide +kernel
theorem dX7_branchBytesBefore_2 : decode cX7_branchBytesBefore 2 = .ok (.iconst 0, 1) := by decide +kernel
theorem dX7_branchBytesBefore_3 : decode cX7_branchBytesBefore 3 = .ok (.istore 4, 2) := by decide +kernel
theorem dX7_branchBytesBefore_5 : decode cX7_branchBytesBefore 5 = .ok (.iload 4, 2) := by decide +kernel
theorem dX7_branchBytesBefore_7 : decode cX7_branchBytesBefore 7 = .ok (.aload_n 0, 1) := by decide +kernel
theorem dX7_branchBytesBefore_8 : decode cX7_branchBytesBefore 8 = .ok (.getfield 9, 3) := by decide +kernel
theorem dX7_branchBytesBefore_11 : decode cX7_branchBytesBefore 11 = .ok (.iload_n 1, 1) := by decide +kernel
theorem dX7_branchBytesBefore_12 : decode cX7_branchBytesBefore 12 = .ok (.iaload, 1) := by decide +kernel
theorem dX7_branchBytesBefore_13 : decode cX7_branchBytesBefore 13 = .ok (.if_icmp .ge 23, 3) := by decide +kernel
theorem dX7_branchBytesBefore_16 : decode cX7_branchBytesBefore 16 = .ok (.aload_n 0, 1) := by decide +kernel
theorem dX7_branchBytesBefore_17 : decode cX7_branchBytesBefore 17 = .ok (.iload_n 1, 1) := by decide +kernel
theorem dX7_branchBytesBefore_18 : decode cX7_branchBytesBefore 18 = .ok (.iload 4, 2) := by decide +kernel
theorem dX7_branchBytesBefore_20 : decode cX7_branchBytesBefore 20 = .ok (.invokevirtual 53, 3) := by decide +kernel
theorem dX7_branchBytesBefore_23 : decode cX7_branchBytesBefore 23 = .ok (.iload_n 2, 1) := by decide +kernel
theorem dX7_branchBytesBefore_24 : decode cX7_branchBytesBefore 24 = .ok (.if_icmp .eq 6, 3) := by decide +kernel
theorem dX7_branchBytesBefore_27 : decode cX7_branchBytesBefore 27 = .ok (.iinc 3 2, 3) := by decide +kernel
theorem dX7_branchBytesBefore_30 : decode cX7_branchBytesBefore 30 = .ok (.iinc 4 1, 3) := by decide +kernel
theorem dX7_branchBytesBefore_33 : decode cX7_branchBytesBefore 33 = .ok (.goto (-28), 3) := by decide +kernel
theorem dX7_branchBytesBefore_36 : decode cX7_branchBytesBefore 36 = .ok (.iload_n 3, 1) := by decide +kernel
theorem dX7_branchBytesBefore_37 : decode cX7_branchBytesBefore 37 = .ok (.ireturn, 1) := by decide +kernel
theorem dX7_passCost_0 : decode cX7_passCost 0 = .ok (.aload_n 0, 1) := by decide +kernel
theorem dX7_passCost_1 : decode cX7_passCost 1 = .ok (.iload_n 1, 1) := by decide +kernel
theorem dX7_passCost_2 : decode cX7_passCost 2 = .ok (.iload_n 2, 1) := by decide +kernel
theorem dX7_passCost_3 : decode cX7_passCost 3 = .ok (.invokevirtual 53, 3) := by decide +kernel
theorem dX7_passCost_6 : decode cX7_passCost 6 = .ok (.iload_n 3, 1) := by decide +kernel
theorem dX7_passCost_7 : decode cX7_passCost 7 = .ok (.if_icmp .ne 5, 3) := by decide +kernel
theorem dX7_passCost_10 : decode cX7_passCost 10 = .ok (.iconst 0, 1) := by decide +kernel
theorem dX7_passCost_11 : decode cX7_passCost 11 = .ok (.ireturn, 1) := by decide +kernel
theorem dX7_passCost_12 : decode cX7_passCost 12 = .ok (.aload_n 0, 1) := by decide +kernel
theorem dX7_passCost_13 : decode cX7_passCost 13 = .ok (.getfield 9, 3) := by decide +kernel
theorem dX7_passCost_16 : decode cX7_passCost 16 = .ok (.iload_n 1, 1) := by decide +kernel
theorem dX7_passCost_17 : decode cX7_passCost 17 = .ok (.iaload, 1) := by decide +kernel
theorem dX7_passCost_18 : decode cX7_passCost 18 = .ok (.iconst 1, 1) := by decide +kernel
theorem dX7_passCost_19 : decode cX7_passCost 19 = .ok (.if_icmp .ne 5, 3) := by decide +kernel
theorem dX7_passCost_22 : decode cX7_passCost 22 = .ok (.iconst 2, 1) := by decide +kernel
theorem dX7_passCost_23 : decode cX7_passCost 23 = .ok (.ireturn, 1) := by decide +kernel
theorem dX7_passCost_24 : decode cX7_passCost 24 = .ok (.aload_n 0, 1) := by decide +kernel
theorem dX7_passCost_25 : decode cX7_passCost 25 = .ok (.iload_n 1, 1) := by decide +kernel
theorem dX7_passCost_26 : decode cX7_passCost 26 = .ok (.iconst 1, 1) := by decide +kernel
theorem dX7_passCost_27 : decode cX7_passCost 27 = .ok (.iload_n 2, 1) := by decide +kernel
theorem dX7_passCost_28 : decode cX7_passCost 28 = .ok (.isub, 1) := by decide +kernel
theorem dX7_passCost_29 : decode cX7_passCost 29 = .ok (.invokevirtual 53, 3) := by decide +kernel
theorem dX7_passCost_32 : decode cX7_passCost 32 = .ok (.iload_n 3, 1) := by decide +kernel
theorem dX7_passCost_33 : decode cX7_passCost 33 = .ok (.if_icmp .ne 5, 3) := by decide +kernel
theorem dX7_passCost_36 : decode cX7_passCost 36 = .ok (.iconst 3, 1) := by decide +kernel
theorem dX7_passCost_37 : decode cX7_passCost 37 = .ok (.ireturn, 1) := by decide +kernel
theorem dX7_passCost_38 : decode cX7_passCost 38 = .ok (.aload_n 0, 1) := by decide +kernel
theorem dX7_passCost_39 : decode cX7_passCost 39 = .ok (.iload_n 1, 1) := by decide +kernel
theorem dX7_passCost_40 : decode cX7_passCost 40 = .ok (.iconst 1, 1) := by decide +kernel
theorem dX7_passCost_41 : decode cX7_passCost 41 = .ok (.invokevirtual 57, 3) := by decide +kernel
theorem dX7_passCost_44 : decode cX7_passCost 44 = .ok (.aload_n 0, 1) := by decide +kernel
theorem dX7_passCost_45 : decode cX7_passCost 45 = .ok (.iload_n 1, 1) := by decide +kernel
theorem dX7_passCost_46 : decode cX7_passCost 46 = .ok (.iconst 0, 1) := by decide +kernel
theorem dX7_passCost_47 : decode cX7_passCost 47 = .ok (.invokevirtual 57, 3) := by decide +kernel
theorem dX7_passCost_50 : decode cX7_passCost 50 = .ok (.if_icmp .le 7, 3) := by decide +kernel
theorem dX7_passCost_53 : decode cX7_passCost 53 = .ok (.iconst 1, 1) := by decide +kernel
theorem dX7_passCost_54 : decode cX7_passCost 54 = .ok (.goto 4, 3) := by decide +kernel
theorem dX7_passCost_57 : decode cX7_passCost 57 = .ok (.iconst 0, 1) := by decide +kernel
theorem dX7_passCost_58 : decode cX7_passCost 58 = .ok (.istore 4, 2) := by decide +kernel
theorem dX7_passCost_60 : decode cX7_passCost 60 = .ok (.iload_n 2, 1) := by decide +kernel
theorem dX7_passCost_61 : decode cX7_passCost 61 = .ok (.iload 4, 2) := by decide +kernel
theorem dX7_passCost_63 : decode cX7_passCost 63 = .ok (.if_icmp .ne 7, 3) := by decide +kernel
theorem dX7_passCost_66 : decode cX7_passCost 66 = .ok (.iconst 3, 1) := by decide +kernel
theorem dX7_passCost_67 : decode cX7_passCost 67 = .ok (.goto 4, 3) := by decide +kernel
theorem dX7_passCost_70 : decode cX7_passCost 70 = .ok (.iconst 2, 1) := by decide +kernel
theorem dX7_passCost_71 : decode cX7_passCost 71 = .ok (.ireturn, 1) := by decide +kernel
theorem dX7_shareOfCost_0 : decode cX7_shareOfCost 0 = .ok (.iconst 0, 1) := by decide +kernel
theorem dX7_shareOfCost_1 : decode cX7_shareOfCost 1 = .ok (.istore_n 3, 1) := by decide +kernel
theorem dX7_shareOfCost_2 : decode cX7_shareOfCost 2 = .ok (.iconst 0, 1) := by decide +kernel
theorem dX7_shareOfCost_3 : decode cX7_shareOfCost 3 = .ok (.istore 4, 2) := by decide +kernel
theorem dX7_shareOfCost_5 : decode cX7_shareOfCost 5 = .ok (.iload 4, 2) := by decide +kernel
theorem dX7_shareOfCost_7 : decode cX7_shareOfCost 7 = .ok (.aload_n 0, 1) := by decide +kernel
theorem dX7_shareOfCost_8 : decode cX7_shareOfCost 8 = .ok (.getfield 9, 3) := by decide +kernel
theorem dX7_shareOfCost_11 : decode cX7_shareOfCost 11 = .ok (.iload_n 1, 1) := by decide +kernel
theorem dX7_shareOfCost_12 : decode cX7_shareOfCost 12 = .ok (.iaload, 1) := by decide +kernel
theorem dX7_shareOfCost_13 : decode cX7_shareOfCost 13 = .ok (.if_icmp .ge 28, 3) := by decide +kernel
theorem dX7_shareOfCost_16 : decode cX7_shareOfCost 16 = .ok (.iload_n 3, 1) := by decide +kernel
theorem dX7_shareOfCost_17 : decode cX7_shareOfCost 17 = .ok (.aload_n 0, 1) := by decide +kernel
theorem dX7_shareOfCost_18 : decode cX7_shareOfCost 18 = .ok (.iload_n 1, 1) := by decide +kernel
theorem dX7_shareOfCost_19 : decode cX7_shareOfCost 19 = .ok (.iload 4, 2) := by decide +kernel
theorem dX7_shareOfCost_21 : decode cX7_shareOfCost 21 = .ok (.invokevirtual 57, 3) := by decide +kernel
theorem dX7_shareOfCost_24 : decode cX7_shareOfCost 24 = .ok (.aload_n 0, 1) := by decide +kernel
theorem dX7_shareOfCost_25 : decode cX7_shareOfCost 25 = .ok (.iload_n 1, 1) := by decide +kernel
theorem dX7_shareOfCost_26 : decode cX7_shareOfCost 26 = .ok (.iload 4, 2) := by decide +kernel
theorem dX7_shareOfCost_28 : decode cX7_shareOfCost 28 = .ok (.iload_n 2, 1) := by decide +kernel
theorem dX7_shareOfCost_29 : decode cX7_shareOfCost 29 = .ok (.invokevirtual 64, 3) := by decide +kernel
theorem dX7_shareOfCost_32 : decode cX7_shareOfCost 32 = .ok (.imul, 1) := by decide +kernel
theorem dX7_shareOfCost_33 : decode cX7_shareOfCost 33 = .ok (.iadd, 1) := by decide +kernel
theorem dX7_shareOfCost_34 : decode cX7_shareOfCost 34 = .ok (.istore_n 3, 1) := by decide +kernel
theorem dX7_shareOfCost_35 : decode cX7_shareOfCost 35 = .ok (.iinc 4 1, 3) := by decide +kernel
theorem dX7_shareOfCost_38 : decode cX7_shareOfCost 38 = .ok (.goto (-33), 3) := by decide +kernel
theorem dX7_shareOfCost_41 : decode cX7_shareOfCost 41 = .ok (.iload_n 3, 1) := by decide +kernel
theorem dX7_shareOfCost_42 : decode cX7_shareOfCost 42 = .ok (.ireturn, 1) := by decide +kernel
theorem dX7_totalCost_0 : decode cX7_totalCost 0 = .ok (.iconst 0, 1) := by decide +kernel
theorem dX7_totalCost_1 : decode cX7_totalCost 1 = .ok (.istore_n 1, 1) := by decide +kernel
theorem dX7_totalCost_2 : decode cX7_totalCost 2 = .ok (.iconst 0, 1) := by decide +kernel
theorem dX7_totalCost_3 : decode cX7_totalCost 3 = .ok (.istore_n 2, 1) := by decide +kernel
theorem dX7_totalCost_4 : decode cX7_totalCost 4 = .ok (.iload_n 2, 1) := by decide +kernel
theorem dX7_totalCost_5 : decode cX7_totalCost 5 = .ok (.aload_n 0, 1) := by decide +kernel
theorem dX7_totalCost_6 : decode cX7_totalCost 6 = .ok (.getfield 31, 3) := by decide +kernel
theorem dX7_totalCost_9 : decode cX7_totalCost 9 = .ok (.getfield 41, 3) := by decide +kernel
theorem dX7_totalCost_12 : decode cX7_totalCost 12 = .ok (.if_icmp .ge 27, 3) := by decide +kernel
theorem dX7_totalCost_15 : decode cX7_totalCost 15 = .ok (.iload_n 1, 1) := by decide +kernel
theorem dX7_totalCost_16 : decode cX7_totalCost 16 = .ok (.aload_n 0, 1) := by decide +kernel
theorem dX7_totalCost_17 : decode cX7_totalCost 17 = .ok (.aload_n 0, 1) := by decide +kernel
theorem dX7_totalCost_18 : decode cX7_totalCost 18 = .ok (.getfield 21, 3) := by decide +kernel
theorem dX7_totalCost_21 : decode cX7_totalCost 21 = .ok (.iload_n 2, 1) := by decide +kernel
theorem dX7_totalCost_22 : decode cX7_totalCost 22 = .ok (.iaload, 1) := by decide +kernel
theorem dX7_totalCost_23 : decode cX7_totalCost 23 = .ok (.aload_n 0, 1) := by decide +kernel
theorem dX7_totalCost_24 : decode cX7_totalCost 24 = .ok (.iload_n 2, 1) := by decide +kernel
theorem dX7_totalCost_25 : decode cX7_totalCost 25 = .ok (.invokevirtual 60, 3) := by decide +kernel
theorem dX7_totalCost_28 : decode cX7_totalCost 28 = .ok (.invokevirtual 68, 3) := by decide +kernel
theorem dX7_totalCost_31 : decode cX7_totalCost 31 = .ok (.iadd, 1) := by decide +kernel
theorem dX7_totalCost_32 : decode cX7_totalCost 32 = .ok (.istore_n 1, 1) := by decide +kernel
theorem dX7_totalCost_33 : decode cX7_totalCost 33 = .ok (.iinc 2 1, 3) := by decide +kernel
theorem dX7_totalCost_36 : decode cX7_totalCost 36 = .ok (.goto (-32), 3) := by decide +kernel
theorem dX7_totalCost_39 : decode cX7_totalCost 39 = .ok (.iload_n 1, 1) := by decide +kernel
theorem dX7_totalCost_40 : decode cX7_totalCost 40 = .ok (.ireturn, 1) := by decide +kernel
theorem dX7_refusalToExchange_0 : decode cX7_refusalToExchange 0 = .ok (.aload_n 0, 1) := by decide +kernel
theorem dX7_refusalToExchange_1 : decode cX7_refusalToExchange 1 = .ok (.getfield 31, 3) := by decide +kernel
theorem dX7_refusalToExchange_4 : decode cX7_refusalToExchange 4 = .ok (.iload_n 1, 1) := by decide +kernel
theorem dX7_refusalToExchange_5 : decode cX7_refusalToExchange 5 = .ok (.invokevirtual 71, 3) := by decide +kernel
theorem dX7_refusalToExchange_8 : decode cX7_refusalToExchange 8 = .ok (.ifCond .eq 14, 3) := by decide +kernel
theorem dX7_refusalToExchange_11 : decode cX7_refusalToExchange 11 = .ok (.aload_n 0, 1) := by decide +kernel
theorem dX7_refusalToExchange_12 : decode cX7_refusalToExchange 12 = .ok (.getfield 31, 3) := by decide +kernel
theorem dX7_refusalToExchange_15 : decode cX7_refusalToExchange 15 = .ok (.iload_n 2, 1) := by decide +kernel
theorem dX7_refusalToExchange_16 : decode cX7_refusalToExchange 16 = .ok (.invokevirtual 71, 3) := by decide +kernel
theorem dX7_refusalToExchange_19 : decode cX7_refusalToExchange 19 = .ok (.ifCond .ne 5, 3) := by decide +kernel
theorem dX7_refusalToExchange_22 : decode cX7_refusalToExchange 22 = .ok (.iconst (-1), 1) := by decide +kernel
theorem dX7_refusalToExchange_23 : decode cX7_refusalToExchange 23 = .ok (.ireturn, 1) := by decide +kernel
theorem dX7_refusalToExchange_24 : decode cX7_refusalToExchange 24 = .ok (.iload_n 1, 1) := by decide +kernel
theorem dX7_refusalToExchange_25 : decode cX7_refusalToExchange 25 = .ok (.ifCond .eq 7, 3) := by decide +kernel
theorem dX7_refusalToExchange_28 : decode cX7_refusalToExchange 28 = .ok (.iload_n 2, 1) := by decide +kernel
theorem dX7_refusalToExchange_29 : decode cX7_refusalToExchange 29 = .ok (.ifCond .ne 8, 3) := by decide +kernel
theorem dX7_refusalToExchange_32 : decode cX7_refusalToExchange 32 = .ok (.bipush (-3), 2) := by decide +kernel
theorem dX7_refusalToExchange_34 : decode cX7_refusalToExchange 34 = .ok (.goto 4, 3) := by decide +kernel
theorem dX7_refusalToExchange_37 : decode cX7_refusalToExchange 37 = .ok (.iconst 0, 1) := by decide +kernel
theorem dX7_refusalToExchange_38 : decode cX7_refusalToExchange 38 = .ok (.ireturn, 1) := by decide +kernel
theorem dX7_exchange_0 : decode cX7_exchange 0 = .ok (.aload_n 0, 1) := by decide +kernel
theorem dX7_exchange_1 : decode cX7_exchange 1 = .ok (.getfield 21, 3) := by decide +kernel
theorem dX7_exchange_4 : decode cX7_exchange 4 = .ok (.iload_n 1, 1) := by decide +kernel
theorem dX7_exchange_5 : decode cX7_exchange 5 = .ok (.iaload, 1) := by decide +kernel
theorem dX7_exchange_6 : decode cX7_exchange 6 = .ok (.istore_n 3, 1) := by decide +kernel
theorem dX7_exchange_7 : decode cX7_exchange 7 = .ok (.aload_n 0, 1) := by decide +kernel
theorem dX7_exchange_8 : decode cX7_exchange 8 = .ok (.getfield 21, 3) := by decide +kernel
theorem dX7_exchange_11 : decode cX7_exchange 11 = .ok (.iload_n 1, 1) := by decide +kernel
theorem dX7_exchange_12 : decode cX7_exchange 12 = .ok (.aload_n 0, 1) := by decide +kernel
theorem dX7_exchange_13 : decode cX7_exchange 13 = .ok (.getfield 21, 3) := by decide +kernel
theorem dX7_exchange_16 : decode cX7_exchange 16 = .ok (.iload_n 2, 1) := by decide +kernel
theorem dX7_exchange_17 : decode cX7_exchange 17 = .ok (.iaload, 1) := by decide +kernel
theorem dX7_exchange_18 : decode cX7_exchange 18 = .ok (.iastore, 1) := by decide +kernel
theorem dX7_exchange_19 : decode cX7_exchange 19 = .ok (.aload_n 0, 1) := by decide +kernel
theorem dX7_exchange_20 : decode cX7_exchange 20 = .ok (.getfield 21, 3) := by decide +kernel
theorem dX7_exchange_23 : decode cX7_exchange 23 = .ok (.iload_n 2, 1) := by decide +kernel
theorem dX7_exchange_24 : decode cX7_exchange 24 = .ok (.iload_n 3, 1) := by decide +kernel
theorem dX7_exchange_25 : decode cX7_exchange 25 = .ok (.iastore, 1) := by decide +kernel
theorem dX7_exchange_26 : decode cX7_exchange 26 = .ok (.return_, 1) := by decide +kernel
theorem dX7_refusalToTurn_0 : decode cX7_refusalToTurn 0 = .ok (.aload_n 0, 1) := by decide +kernel
theorem dX7_refusalToTurn_1 : decode cX7_refusalToTurn 1 = .ok (.getfield 31, 3) := by decide +kernel
theorem dX7_refusalToTurn_4 : decode cX7_refusalToTurn 4 = .ok (.iload_n 1, 1) := by decide +kernel
theorem dX7_refusalToTurn_5 : decode cX7_refusalToTurn 5 = .ok (.invokevirtual 71, 3) := by decide +kernel
theorem dX7_refusalToTurn_8 : decode cX7_refusalToTurn 8 = .ok (.ifCond .eq 14, 3) := by decide +kernel
theorem dX7_refusalToTurn_11 : decode cX7_refusalToTurn 11 = .ok (.aload_n 0, 1) := by decide +kernel
theorem dX7_refusalToTurn_12 : decode cX7_refusalToTurn 12 = .ok (.getfield 31, 3) := by decide +kernel
theorem dX7_refusalToTurn_15 : decode cX7_refusalToTurn 15 = .ok (.iload_n 2, 1) := by decide +kernel
theorem dX7_refusalToTurn_16 : decode cX7_refusalToTurn 16 = .ok (.invokevirtual 71, 3) := by decide +kernel
theorem dX7_refusalToTurn_19 : decode cX7_refusalToTurn 19 = .ok (.ifCond .ne 5, 3) := by decide +kernel
theorem dX7_refusalToTurn_22 : decode cX7_refusalToTurn 22 = .ok (.iconst (-1), 1) := by decide +kernel
theorem dX7_refusalToTurn_23 : decode cX7_refusalToTurn 23 = .ok (.ireturn, 1) := by decide +kernel
theorem dX7_refusalToTurn_24 : decode cX7_refusalToTurn 24 = .ok (.iload_n 1, 1) := by decide +kernel
theorem dX7_refusalToTurn_25 : decode cX7_refusalToTurn 25 = .ok (.ifCond .eq 16, 3) := by decide +kernel
theorem dX7_refusalToTurn_28 : decode cX7_refusalToTurn 28 = .ok (.iload_n 1, 1) := by decide +kernel
theorem dX7_refusalToTurn_29 : decode cX7_refusalToTurn 29 = .ok (.iload_n 2, 1) := by decide +kernel
theorem dX7_refusalToTurn_30 : decode cX7_refusalToTurn 30 = .ok (.if_icmp .gt 11, 3) := by decide +kernel
theorem dX7_refusalToTurn_33 : decode cX7_refusalToTurn 33 = .ok (.iload_n 2, 1) := by decide +kernel
theorem dX7_refusalToTurn_34 : decode cX7_refusalToTurn 34 = .ok (.aload_n 0, 1) := by decide +kernel
theorem dX7_refusalToTurn_35 : decode cX7_refusalToTurn 35 = .ok (.getfield 24, 3) := by decide +kernel
theorem dX7_refusalToTurn_38 : decode cX7_refusalToTurn 38 = .ok (.if_icmp .lt 8, 3) := by decide +kernel
theorem dX7_refusalToTurn_41 : decode cX7_refusalToTurn 41 = .ok (.bipush (-3), 2) := by decide +kernel
theorem dX7_refusalToTurn_43 : decode cX7_refusalToTurn 43 = .ok (.goto 4, 3) := by decide +kernel
theorem dX7_refusalToTurn_46 : decode cX7_refusalToTurn 46 = .ok (.iconst 0, 1) := by decide +kernel
theorem dX7_refusalToTurn_47 : decode cX7_refusalToTurn 47 = .ok (.ireturn, 1) := by decide +kernel
theorem dX7_turn_0 : decode cX7_turn 0 = .ok (.aload_n 0, 1) := by decide +kernel
theorem dX7_turn_1 : decode cX7_turn 1 = .ok (.getfield 21, 3) := by decide +kernel
theorem dX7_turn_4 : decode cX7_turn 4 = .ok (.iload_n 1, 1) := by decide +kernel
theorem dX7_turn_5 : decode cX7_turn 5 = .ok (.iaload, 1) := by decide +kernel
theorem dX7_turn_6 : decode cX7_turn 6 = .ok (.istore_n 3, 1) := by decide +kernel
theorem dX7_turn_7 : decode cX7_turn 7 = .ok (.iload_n 1, 1) := by decide +kernel
theorem dX7_turn_8 : decode cX7_turn 8 = .ok (.istore 4, 2) := by decide +kernel
theorem dX7_turn_10 : decode cX7_turn 10 = .ok (.iload 4, 2) := by decide +kernel
theorem dX7_turn_12 : decode cX7_turn 12 = .ok (.iload_n 2, 1) := by decide +kernel
theorem dX7_turn_13 : decode cX7_turn 13 = .ok (.if_icmp .ge 25, 3) := by decide +kernel
theorem dX7_turn_16 : decode cX7_turn 16 = .ok (.aload_n 0, 1) := by decide +kernel
theorem dX7_turn_17 : decode cX7_turn 17 = .ok (.getfield 21, 3) := by decide +kernel
theorem dX7_turn_20 : decode cX7_turn 20 = .ok (.iload 4, 2) := by decide +kernel
theorem dX7_turn_22 : decode cX7_turn 22 = .ok (.aload_n 0, 1) := by decide +kernel
theorem dX7_turn_23 : decode cX7_turn 23 = .ok (.getfield 21, 3) := by decide +kernel
theorem dX7_turn_26 : decode cX7_turn 26 = .ok (.iload 4, 2) := by decide +kernel
theorem dX7_turn_28 : decode cX7_turn 28 = .ok (.iconst 1, 1) := by decide +kernel
theorem dX7_turn_29 : decode cX7_turn 29 = .ok (.iadd, 1) := by decide +kernel
theorem dX7_turn_30 : decode cX7_turn 30 = .ok (.iaload, 1) := by decide +kernel
theorem dX7_turn_31 : decode cX7_turn 31 = .ok (.iastore, 1) := by decide +kernel
theorem dX7_turn_32 : decode cX7_turn 32 = .ok (.iinc 4 1, 3) := by decide +kernel
theorem dX7_turn_35 : decode cX7_turn 35 = .ok (.goto (-25), 3) := by decide +kernel
theorem dX7_turn_38 : decode cX7_turn 38 = .ok (.aload_n 0, 1) := by decide +kernel
theorem dX7_turn_39 : decode cX7_turn 39 = .ok (.getfield 21, 3) := by decide +kernel
theorem dX7_turn_42 : decode cX7_turn 42 = .ok (.iload_n 2, 1) := by decide +kernel
theorem dX7_turn_43 : decode cX7_turn 43 = .ok (.iload_n 3, 1) := by decide +kernel
theorem dX7_turn_44 : decode cX7_turn 44 = .ok (.iastore, 1) := by decide +kernel
theorem dX7_turn_45 : decode cX7_turn 45 = .ok (.return_, 1) := by decide +kernel
theorem dX7_refusalToDivide_0 : decode cX7_refusalToDivide 0 = .ok (.iload_n 0, 1) := by decide +kernel
theorem dX7_refusalToDivide_1 : decode cX7_refusalToDivide 1 = .ok (.iconst 1, 1) := by decide +kernel
theorem dX7_refusalToDivide_2 : decode cX7_refusalToDivide 2 = .ok (.if_icmp .lt 9, 3) := by decide +kernel
theorem dX7_refusalToDivide_5 : decode cX7_refusalToDivide 5 = .ok (.iload_n 0, 1) := by decide +kernel
theorem dX7_refusalToDivide_6 : decode cX7_refusalToDivide 6 = .ok (.bipush 99, 2) := by decide +kernel
theorem dX7_refusalToDivide_8 : decode cX7_refusalToDivide 8 = .ok (.if_icmp .le 8, 3) := by decide +kernel
theorem dX7_refusalToDivide_11 : decode cX7_refusalToDivide 11 = .ok (.bipush (-2), 2) := by decide +kernel
theorem dX7_refusalToDivide_13 : decode cX7_refusalToDivide 13 = .ok (.goto 4, 3) := by decide +kernel
theorem dX7_refusalToDivide_16 : decode cX7_refusalToDivide 16 = .ok (.iconst 0, 1) := by decide +kernel
theorem dX7_refusalToDivide_17 : decode cX7_refusalToDivide 17 = .ok (.ireturn, 1) := by decide +kernel
theorem dX7_divide_0 : decode cX7_divide 0 = .ok (.iconst 0, 1) := by decide +kernel
theorem dX7_divide_1 : decode cX7_divide 1 = .ok (.istore_n 2, 1) := by decide +kernel
theorem dX7_divide_2 : decode cX7_divide 2 = .ok (.iconst 0, 1) := by decide +kernel
theorem dX7_divide_3 : decode cX7_divide 3 = .ok (.istore_n 3, 1) := by decide +kernel
theorem dX7_divide_4 : decode cX7_divide 4 = .ok (.iload_n 3, 1) := by decide +kernel
theorem dX7_divide_5 : decode cX7_divide 5 = .ok (.aload_n 0, 1) := by decide +kernel
theorem dX7_divide_6 : decode cX7_divide 6 = .ok (.getfield 31, 3) := by decide +kernel
theorem dX7_divide_9 : decode cX7_divide 9 = .ok (.getfield 41, 3) := by decide +kernel
theorem dX7_divide_12 : decode cX7_divide 12 = .ok (.if_icmp .ge 74, 3) := by decide +kernel
theorem dX7_divide_15 : decode cX7_divide 15 = .ok (.aload_n 0, 1) := by decide +kernel
theorem dX7_divide_16 : decode cX7_divide 16 = .ok (.getfield 21, 3) := by decide +kernel
theorem dX7_divide_19 : decode cX7_divide 19 = .ok (.iload_n 3, 1) := by decide +kernel
theorem dX7_divide_20 : decode cX7_divide 20 = .ok (.iaload, 1) := by decide +kernel
theorem dX7_divide_21 : decode cX7_divide 21 = .ok (.istore 4, 2) := by decide +kernel
theorem dX7_divide_23 : decode cX7_divide 23 = .ok (.iload 4, 2) := by decide +kernel
theorem dX7_divide_25 : decode cX7_divide 25 = .ok (.ifCond .eq 13, 3) := by decide +kernel
theorem dX7_divide_28 : decode cX7_divide 28 = .ok (.aload_n 0, 1) := by decide +kernel
theorem dX7_divide_29 : decode cX7_divide 29 = .ok (.iload 4, 2) := by decide +kernel
theorem dX7_divide_31 : decode cX7_divide 31 = .ok (.invokevirtual 74, 3) := by decide +kernel
theorem dX7_divide_34 : decode cX7_divide 34 = .ok (.iload_n 1, 1) := by decide +kernel
theorem dX7_divide_35 : decode cX7_divide 35 = .ok (.if_icmp .lt 45, 3) := by decide +kernel
theorem dX7_divide_38 : decode cX7_divide 38 = .ok (.iload_n 3, 1) := by decide +kernel
theorem dX7_divide_39 : decode cX7_divide 39 = .ok (.istore 5, 2) := by decide +kernel
theorem dX7_divide_41 : decode cX7_divide 41 = .ok (.iload 5, 2) := by decide +kernel
theorem dX7_divide_43 : decode cX7_divide 43 = .ok (.iload_n 2, 1) := by decide +kernel
theorem dX7_divide_44 : decode cX7_divide 44 = .ok (.if_icmp .le 25, 3) := by decide +kernel
theorem dX7_divide_47 : decode cX7_divide 47 = .ok (.aload_n 0, 1) := by decide +kernel
theorem dX7_divide_48 : decode cX7_divide 48 = .ok (.getfield 21, 3) := by decide +kernel
theorem dX7_divide_51 : decode cX7_divide 51 = .ok (.iload 5, 2) := by decide +kernel
theorem dX7_divide_53 : decode cX7_divide 53 = .ok (.aload_n 0, 1) := by decide +kernel
theorem dX7_divide_54 : decode cX7_divide 54 = .ok (.getfield 21, 3) := by decide +kernel
theorem dX7_divide_57 : decode cX7_divide 57 = .ok (.iload 5, 2) := by decide +kernel
theorem dX7_divide_59 : decode cX7_divide 59 = .ok (.iconst 1, 1) := by decide +kernel
theorem dX7_divide_60 : decode cX7_divide 60 = .ok (.isub, 1) := by decide +kernel
theorem dX7_divide_61 : decode cX7_divide 61 = .ok (.iaload, 1) := by decide +kernel
theorem dX7_divide_62 : decode cX7_divide 62 = .ok (.iastore, 1) := by decide +kernel
theorem dX7_divide_63 : decode cX7_divide 63 = .ok (.iinc 5 (-1), 3) := by decide +kernel
theorem dX7_divide_66 : decode cX7_divide 66 = .ok (.goto (-25), 3) := by decide +kernel
theorem dX7_divide_69 : decode cX7_divide 69 = .ok (.aload_n 0, 1) := by decide +kernel
theorem dX7_divide_70 : decode cX7_divide 70 = .ok (.getfield 21, 3) := by decide +kernel
theorem dX7_divide_73 : decode cX7_divide 73 = .ok (.iload_n 2, 1) := by decide +kernel
theorem dX7_divide_74 : decode cX7_divide 74 = .ok (.iload 4, 2) := by decide +kernel
theorem dX7_divide_76 : decode cX7_divide 76 = .ok (.iastore, 1) := by decide +kernel
theorem dX7_divide_77 : decode cX7_divide 77 = .ok (.iinc 2 1, 3) := by decide +kernel
theorem dX7_divide_80 : decode cX7_divide 80 = .ok (.iinc 3 1, 3) := by decide +kernel
theorem dX7_divide_83 : decode cX7_divide 83 = .ok (.goto (-79), 3) := by decide +kernel
theorem dX7_divide_86 : decode cX7_divide 86 = .ok (.aload_n 0, 1) := by decide +kernel
theorem dX7_divide_87 : decode cX7_divide 87 = .ok (.iload_n 2, 1) := by decide +kernel
theorem dX7_divide_88 : decode cX7_divide 88 = .ok (.putfield 24, 3) := by decide +kernel
theorem dX7_divide_91 : decode cX7_divide 91 = .ok (.return_, 1) := by decide +kernel
theorem dX7_refusalToGoAround_0 : decode cX7_refusalToGoAround 0 = .ok (.aload_n 0, 1) := by decide +kernel
theorem dX7_refusalToGoAround_1 : decode cX7_refusalToGoAround 1 = .ok (.getfield 31, 3) := by decide +kernel
theorem dX7_refusalToGoAround_4 : decode cX7_refusalToGoAround 4 = .ok (.iload_n 1, 1) := by decide +kernel
theorem dX7_refusalToGoAround_5 : decode cX7_refusalToGoAround 5 = .ok (.invokevirtual 46, 3) := by decide +kernel
theorem dX7_refusalToGoAround_8 : decode cX7_refusalToGoAround 8 = .ok (.ifCond .ne 5, 3) := by decide +kernel
theorem dX7_refusalToGoAround_11 : decode cX7_refusalToGoAround 11 = .ok (.iconst (-1), 1) := by decide +kernel
theorem dX7_refusalToGoAround_12 : decode cX7_refusalToGoAround 12 = .ok (.ireturn, 1) := by decide +kernel
theorem dX7_refusalToGoAround_13 : decode cX7_refusalToGoAround 13 = .ok (.iload_n 1, 1) := by decide +kernel
theorem dX7_refusalToGoAround_14 : decode cX7_refusalToGoAround 14 = .ok (.ifCond .eq 39, 3) := by decide +kernel
theorem dX7_refusalToGoAround_17 : decode cX7_refusalToGoAround 17 = .ok (.aload_n 0, 1) := by decide +kernel
theorem dX7_refusalToGoAround_18 : decode cX7_refusalToGoAround 18 = .ok (.getfield 31, 3) := by decide +kernel
theorem dX7_refusalToGoAround_21 : decode cX7_refusalToGoAround 21 = .ok (.getfield 77, 3) := by decide +kernel
theorem dX7_refusalToGoAround_24 : decode cX7_refusalToGoAround 24 = .ok (.iload_n 1, 1) := by decide +kernel
theorem dX7_refusalToGoAround_25 : decode cX7_refusalToGoAround 25 = .ok (.iaload, 1) := by decide +kernel
theorem dX7_refusalToGoAround_26 : decode cX7_refusalToGoAround 26 = .ok (.ifCond .ne 27, 3) := by decide +kernel
theorem dX7_refusalToGoAround_29 : decode cX7_refusalToGoAround 29 = .ok (.aload_n 0, 1) := by decide +kernel
theorem dX7_refusalToGoAround_30 : decode cX7_refusalToGoAround 30 = .ok (.getfield 9, 3) := by decide +kernel
theorem dX7_refusalToGoAround_33 : decode cX7_refusalToGoAround 33 = .ok (.iload_n 1, 1) := by decide +kernel
theorem dX7_refusalToGoAround_34 : decode cX7_refusalToGoAround 34 = .ok (.iaload, 1) := by decide +kernel
theorem dX7_refusalToGoAround_35 : decode cX7_refusalToGoAround 35 = .ok (.iconst 1, 1) := by decide +kernel
theorem dX7_refusalToGoAround_36 : decode cX7_refusalToGoAround 36 = .ok (.if_icmp .ne 17, 3) := by decide +kernel
theorem dX7_refusalToGoAround_39 : decode cX7_refusalToGoAround 39 = .ok (.aload_n 0, 1) := by decide +kernel
theorem dX7_refusalToGoAround_40 : decode cX7_refusalToGoAround 40 = .ok (.iload_n 1, 1) := by decide +kernel
theorem dX7_refusalToGoAround_41 : decode cX7_refusalToGoAround 41 = .ok (.iconst 0, 1) := by decide +kernel
theorem dX7_refusalToGoAround_42 : decode cX7_refusalToGoAround 42 = .ok (.invokevirtual 53, 3) := by decide +kernel
theorem dX7_refusalToGoAround_45 : decode cX7_refusalToGoAround 45 = .ok (.iload_n 1, 1) := by decide +kernel
theorem dX7_refusalToGoAround_46 : decode cX7_refusalToGoAround 46 = .ok (.if_icmp .eq 7, 3) := by decide +kernel
theorem dX7_refusalToGoAround_49 : decode cX7_refusalToGoAround 49 = .ok (.iconst 1, 1) := by decide +kernel
theorem dX7_refusalToGoAround_50 : decode cX7_refusalToGoAround 50 = .ok (.goto 4, 3) := by decide +kernel
theorem dX7_refusalToGoAround_53 : decode cX7_refusalToGoAround 53 = .ok (.iconst 0, 1) := by decide +kernel
theorem dX7_refusalToGoAround_54 : decode cX7_refusalToGoAround 54 = .ok (.istore_n 2, 1) := by decide +kernel
theorem dX7_refusalToGoAround_55 : decode cX7_refusalToGoAround 55 = .ok (.iload_n 2, 1) := by decide +kernel
theorem dX7_refusalToGoAround_56 : decode cX7_refusalToGoAround 56 = .ok (.ifCond .eq 7, 3) := by decide +kernel
theorem dX7_refusalToGoAround_59 : decode cX7_refusalToGoAround 59 = .ok (.iconst 0, 1) := by decide +kernel
theorem dX7_refusalToGoAround_60 : decode cX7_refusalToGoAround 60 = .ok (.goto 5, 3) := by decide +kernel
theorem dX7_refusalToGoAround_63 : decode cX7_refusalToGoAround 63 = .ok (.bipush (-3), 2) := by decide +kernel
theorem dX7_refusalToGoAround_65 : decode cX7_refusalToGoAround 65 = .ok (.ireturn, 1) := by decide +kernel
theorem dX7_goAround_0 : decode cX7_goAround 0 = .ok (.iconst 0, 1) := by decide +kernel
theorem dX7_goAround_1 : decode cX7_goAround 1 = .ok (.istore_n 2, 1) := by decide +kernel
theorem dX7_goAround_2 : decode cX7_goAround 2 = .ok (.iconst 0, 1) := by decide +kernel
theorem dX7_goAround_3 : decode cX7_goAround 3 = .ok (.istore_n 3, 1) := by decide +kernel
theorem dX7_goAround_4 : decode cX7_goAround 4 = .ok (.iload_n 3, 1) := by decide +kernel
theorem dX7_goAround_5 : decode cX7_goAround 5 = .ok (.aload_n 0, 1) := by decide +kernel
theorem dX7_goAround_6 : decode cX7_goAround 6 = .ok (.getfield 31, 3) := by decide +kernel
theorem dX7_goAround_9 : decode cX7_goAround 9 = .ok (.getfield 41, 3) := by decide +kernel
theorem dX7_goAround_12 : decode cX7_goAround 12 = .ok (.if_icmp .ge 61, 3) := by decide +kernel
theorem dX7_goAround_15 : decode cX7_goAround 15 = .ok (.iconst 0, 1) := by decide +kernel
theorem dX7_goAround_16 : decode cX7_goAround 16 = .ok (.istore 4, 2) := by decide +kernel
theorem dX7_goAround_18 : decode cX7_goAround 18 = .ok (.iload 4, 2) := by decide +kernel
theorem dX7_goAround_20 : decode cX7_goAround 20 = .ok (.aload_n 0, 1) := by decide +kernel
theorem dX7_goAround_21 : decode cX7_goAround 21 = .ok (.getfield 9, 3) := by decide +kernel
theorem dX7_goAround_24 : decode cX7_goAround 24 = .ok (.iload_n 3, 1) := by decide +kernel
theorem dX7_goAround_25 : decode cX7_goAround 25 = .ok (.iaload, 1) := by decide +kernel
theorem dX7_goAround_26 : decode cX7_goAround 26 = .ok (.if_icmp .ge 36, 3) := by decide +kernel
theorem dX7_goAround_29 : decode cX7_goAround 29 = .ok (.aload_n 0, 1) := by decide +kernel
theorem dX7_goAround_30 : decode cX7_goAround 30 = .ok (.iload_n 3, 1) := by decide +kernel
theorem dX7_goAround_31 : decode cX7_goAround 31 = .ok (.iload 4, 2) := by decide +kernel
theorem dX7_goAround_33 : decode cX7_goAround 33 = .ok (.invokevirtual 53, 3) := by decide +kernel
theorem dX7_goAround_36 : decode cX7_goAround 36 = .ok (.iload_n 1, 1) := by decide +kernel
theorem dX7_goAround_37 : decode cX7_goAround 37 = .ok (.if_icmp .ne 19, 3) := by decide +kernel
theorem dX7_goAround_40 : decode cX7_goAround 40 = .ok (.aload_n 0, 1) := by decide +kernel
theorem dX7_goAround_41 : decode cX7_goAround 41 = .ok (.iload_n 3, 1) := by decide +kernel
theorem dX7_goAround_42 : decode cX7_goAround 42 = .ok (.iload 4, 2) := by decide +kernel
theorem dX7_goAround_44 : decode cX7_goAround 44 = .ok (.aload_n 0, 1) := by decide +kernel
theorem dX7_goAround_45 : decode cX7_goAround 45 = .ok (.iload_n 1, 1) := by decide +kernel
theorem dX7_goAround_46 : decode cX7_goAround 46 = .ok (.iconst 0, 1) := by decide +kernel
theorem dX7_goAround_47 : decode cX7_goAround 47 = .ok (.invokevirtual 53, 3) := by decide +kernel
theorem dX7_goAround_50 : decode cX7_goAround 50 = .ok (.invokevirtual 80, 3) := by decide +kernel
theorem dX7_goAround_53 : decode cX7_goAround 53 = .ok (.iinc 2 1, 3) := by decide +kernel
theorem dX7_goAround_56 : decode cX7_goAround 56 = .ok (.iinc 4 1, 3) := by decide +kernel
theorem dX7_goAround_59 : decode cX7_goAround 59 = .ok (.goto (-41), 3) := by decide +kernel
theorem dX7_goAround_62 : decode cX7_goAround 62 = .ok (.aload_n 0, 1) := by decide +kernel
theorem dX7_goAround_63 : decode cX7_goAround 63 = .ok (.iload_n 3, 1) := by decide +kernel
theorem dX7_goAround_64 : decode cX7_goAround 64 = .ok (.invokevirtual 84, 3) := by decide +kernel
theorem dX7_goAround_67 : decode cX7_goAround 67 = .ok (.iinc 3 1, 3) := by decide +kernel
theorem dX7_goAround_70 : decode cX7_goAround 70 = .ok (.goto (-66), 3) := by decide +kernel
theorem dX7_goAround_73 : decode cX7_goAround 73 = .ok (.aload_n 0, 1) := by decide +kernel
theorem dX7_goAround_74 : decode cX7_goAround 74 = .ok (.iload_n 1, 1) := by decide +kernel
theorem dX7_goAround_75 : decode cX7_goAround 75 = .ok (.iconst 0, 1) := by decide +kernel
theorem dX7_goAround_76 : decode cX7_goAround 76 = .ok (.iconst 0, 1) := by decide +kernel
theorem dX7_goAround_77 : decode cX7_goAround 77 = .ok (.invokevirtual 88, 3) := by decide +kernel
theorem dX7_goAround_80 : decode cX7_goAround 80 = .ok (.iload_n 2, 1) := by decide +kernel
theorem dX7_goAround_81 : decode cX7_goAround 81 = .ok (.ireturn, 1) := by decide +kernel
theorem dX7_joinEqualEdges_0 : decode cX7_joinEqualEdges 0 = .ok (.aload_n 0, 1) := by decide +kernel
theorem dX7_joinEqualEdges_1 : decode cX7_joinEqualEdges 1 = .ok (.getfield 9, 3) := by decide +kernel
theorem dX7_joinEqualEdges_4 : decode cX7_joinEqualEdges 4 = .ok (.iload_n 1, 1) := by decide +kernel
theorem dX7_joinEqualEdges_5 : decode cX7_joinEqualEdges 5 = .ok (.iaload, 1) := by decide +kernel
theorem dX7_joinEqualEdges_6 : decode cX7_joinEqualEdges 6 = .ok (.iconst 2, 1) := by decide +kernel
theorem dX7_joinEqualEdges_7 : decode cX7_joinEqualEdges 7 = .ok (.if_icmp .ne 49, 3) := by decide +kernel
theorem dX7_joinEqualEdges_10 : decode cX7_joinEqualEdges 10 = .ok (.aload_n 0, 1) := by decide +kernel
theorem dX7_joinEqualEdges_11 : decode cX7_joinEqualEdges 11 = .ok (.iload_n 1, 1) := by decide +kernel
theorem dX7_joinEqualEdges_12 : decode cX7_joinEqualEdges 12 = .ok (.iconst 0, 1) := by decide +kernel
theorem dX7_joinEqualEdges_13 : decode cX7_joinEqualEdges 13 = .ok (.invokevirtual 53, 3) := by decide +kernel
theorem dX7_joinEqualEdges_16 : decode cX7_joinEqualEdges 16 = .ok (.aload_n 0, 1) := by decide +kernel
theorem dX7_joinEqualEdges_17 : decode cX7_joinEqualEdges 17 = .ok (.iload_n 1, 1) := by decide +kernel
theorem dX7_joinEqualEdges_18 : decode cX7_joinEqualEdges 18 = .ok (.iconst 1, 1) := by decide +kernel
theorem dX7_joinEqualEdges_19 : decode cX7_joinEqualEdges 19 = .ok (.invokevirtual 53, 3) := by decide +kernel
theorem dX7_joinEqualEdges_22 : decode cX7_joinEqualEdges 22 = .ok (.if_icmp .ne 34, 3) := by decide +kernel
theorem dX7_joinEqualEdges_25 : decode cX7_joinEqualEdges 25 = .ok (.aload_n 0, 1) := by decide +kernel
theorem dX7_joinEqualEdges_26 : decode cX7_joinEqualEdges 26 = .ok (.iload_n 1, 1) := by decide +kernel
theorem dX7_joinEqualEdges_27 : decode cX7_joinEqualEdges 27 = .ok (.iconst 0, 1) := by decide +kernel
theorem dX7_joinEqualEdges_28 : decode cX7_joinEqualEdges 28 = .ok (.bipush 99, 2) := by decide +kernel
theorem dX7_joinEqualEdges_30 : decode cX7_joinEqualEdges 30 = .ok (.aload_n 0, 1) := by decide +kernel
theorem dX7_joinEqualEdges_31 : decode cX7_joinEqualEdges 31 = .ok (.iload_n 1, 1) := by decide +kernel
theorem dX7_joinEqualEdges_32 : decode cX7_joinEqualEdges 32 = .ok (.iconst 0, 1) := by decide +kernel
theorem dX7_joinEqualEdges_33 : decode cX7_joinEqualEdges 33 = .ok (.invokevirtual 57, 3) := by decide +kernel
theorem dX7_joinEqualEdges_36 : decode cX7_joinEqualEdges 36 = .ok (.aload_n 0, 1) := by decide +kernel
theorem dX7_joinEqualEdges_37 : decode cX7_joinEqualEdges 37 = .ok (.iload_n 1, 1) := by decide +kernel
theorem dX7_joinEqualEdges_38 : decode cX7_joinEqualEdges 38 = .ok (.iconst 1, 1) := by decide +kernel
theorem dX7_joinEqualEdges_39 : decode cX7_joinEqualEdges 39 = .ok (.invokevirtual 57, 3) := by decide +kernel
theorem dX7_joinEqualEdges_42 : decode cX7_joinEqualEdges 42 = .ok (.iadd, 1) := by decide +kernel
theorem dX7_joinEqualEdges_43 : decode cX7_joinEqualEdges 43 = .ok (.invokestatic 91, 3) := by decide +kernel
theorem dX7_joinEqualEdges_46 : decode cX7_joinEqualEdges 46 = .ok (.invokevirtual 88, 3) := by decide +kernel
theorem dX7_joinEqualEdges_49 : decode cX7_joinEqualEdges 49 = .ok (.aload_n 0, 1) := by decide +kernel
theorem dX7_joinEqualEdges_50 : decode cX7_joinEqualEdges 50 = .ok (.getfield 9, 3) := by decide +kernel
theorem dX7_joinEqualEdges_53 : decode cX7_joinEqualEdges 53 = .ok (.iload_n 1, 1) := by decide +kernel
theorem dX7_joinEqualEdges_54 : decode cX7_joinEqualEdges 54 = .ok (.iconst 1, 1) := by decide +kernel
theorem dX7_joinEqualEdges_55 : decode cX7_joinEqualEdges 55 = .ok (.iastore, 1) := by decide +kernel
theorem dX7_joinEqualEdges_56 : decode cX7_joinEqualEdges 56 = .ok (.return_, 1) := by decide +kernel
theorem dX9_init_0 : decode cX9_init 0 = .ok (.aload_n 0, 1) := by decide +kernel
theorem dX9_init_1 : decode cX9_init 1 = .ok (.invokespecial 3, 3) := by decide +kernel
theorem dX9_init_4 : decode cX9_init 4 = .ok (.aload_n 0, 1) := by decide +kernel
theorem dX9_init_5 : decode cX9_init 5 = .ok (.new 9, 3) := by decide +kernel
theorem dX9_init_8 : decode cX9_init 8 = .ok (.dup, 1) := by decide +kernel
theorem dX9_init_9 : decode cX9_init 9 = .ok (.invokespecial 11, 3) := by decide +kernel
theorem dX9_init_12 : decode cX9_init 12 = .ok (.putfield 12, 3) := by decide +kernel
theorem dX9_init_15 : decode cX9_init 15 = .ok (.aload_n 0, 1) := by decide +kernel
theorem dX9_init_16 : decode cX9_init 16 = .ok (.new 16, 3) := by decide +kernel
theorem dX9_init_19 : decode cX9_init 19 = .ok (.dup, 1) := by decide +kernel
theorem dX9_init_20 : decode cX9_init 20 = .ok (.aload_n 0, 1) := by decide +kernel
theorem dX9_init_21 : decode cX9_init 21 = .ok (.getfield 12, 3) := by decide +kernel
theorem dX9_init_24 : decode cX9_init 24 = .ok (.invokespecial 18, 3) := by decide +kernel
theorem dX9_init_27 : decode cX9_init 27 = .ok (.putfield 21, 3) := by decide +kernel
theorem dX9_init_30 : decode cX9_init 30 = .ok (.aload_n 0, 1) := by decide +kernel
theorem dX9_init_31 : decode cX9_init 31 = .ok (.new 16, 3) := by decide +kernel
theorem dX9_init_34 : decode cX9_init 34 = .ok (.dup, 1) := by decide +kernel
theorem dX9_init_35 : decode cX9_init 35 = .ok (.aload_n 0, 1) := by decide +kernel
theorem dX9_init_36 : decode cX9_init 36 = .ok (.getfield 12, 3) := by decide +kernel
theorem dX9_init_39 : decode cX9_init 39 = .ok (.invokespecial 18, 3) := by decide +kernel
theorem dX9_init_42 : decode cX9_init 42 = .ok (.putfield 25, 3) := by decide +kernel
theorem dX9_init_45 : decode cX9_init 45 = .ok (.aload_n 0, 1) := by decide +kernel
theorem dX9_init_46 : decode cX9_init 46 = .ok (.iconst 2, 1) := by decide +kernel
theorem dX9_init_47 : decode cX9_init 47 = .ok (.anewarray 16, 3) := by decide +kernel
theorem dX9_init_50 : decode cX9_init 50 = .ok (.putfield 28, 3) := by decide +kernel
theorem dX9_init_53 : decode cX9_init 53 = .ok (.iconst 0, 1) := by decide +kernel
theorem dX9_init_54 : decode cX9_init 54 = .ok (.istore_n 1, 1) := by decide +kernel
theorem dX9_init_55 : decode cX9_init 55 = .ok (.iload_n 1, 1) := by decide +kernel
theorem dX9_init_56 : decode cX9_init 56 = .ok (.iconst 2, 1) := by decide +kernel
theorem dX9_init_57 : decode cX9_init 57 = .ok (.if_icmp .ge 26, 3) := by decide +kernel
theorem dX9_init_60 : decode cX9_init 60 = .ok (.aload_n 0, 1) := by decide +kernel
theorem dX9_init_61 : decode cX9_init 61 = .ok (.getfield 28, 3) := by decide +kernel
theorem dX9_init_64 : decode cX9_init 64 = .ok (.iload_n 1, 1) := by decide +kernel
theorem dX9_init_65 : decode cX9_init 65 = .ok (.new 16, 3) := by decide +kernel
theorem dX9_init_68 : decode cX9_init 68 = .ok (.dup, 1) := by decide +kernel
theorem dX9_init_69 : decode cX9_init 69 = .ok (.aload_n 0, 1) := by decide +kernel
theorem dX9_init_70 : decode cX9_init 70 = .ok (.getfield 12, 3) := by decide +kernel
theorem dX9_init_73 : decode cX9_init 73 = .ok (.invokespecial 18, 3) := by decide +kernel
theorem dX9_init_76 : decode cX9_init 76 = .ok (.aastore, 1) := by decide +kernel
theorem dX9_init_77 : decode cX9_init 77 = .ok (.iinc 1 1, 3) := by decide +kernel
theorem dX9_init_80 : decode cX9_init 80 = .ok (.goto (-25), 3) := by decide +kernel
theorem dX9_init_83 : decode cX9_init 83 = .ok (.aload_n 0, 1) := by decide +kernel
theorem dX9_init_84 : decode cX9_init 84 = .ok (.iconst 2, 1) := by decide +kernel
theorem dX9_init_85 : decode cX9_init 85 = .ok (.newarray .boolean, 2) := by decide +kernel
theorem dX9_init_87 : decode cX9_init 87 = .ok (.putfield 32, 3) := by decide +kernel
theorem dX9_init_90 : decode cX9_init 90 = .ok (.aload_n 0, 1) := by decide +kernel
theorem dX9_init_91 : decode cX9_init 91 = .ok (.new 36, 3) := by decide +kernel
theorem dX9_init_94 : decode cX9_init 94 = .ok (.dup, 1) := by decide +kernel
theorem dX9_init_95 : decode cX9_init 95 = .ok (.aload_n 0, 1) := by decide +kernel
theorem dX9_init_96 : decode cX9_init 96 = .ok (.getfield 12, 3) := by decide +kernel
theorem dX9_init_99 : decode cX9_init 99 = .ok (.invokespecial 38, 3) := by decide +kernel
theorem dX9_init_102 : decode cX9_init 102 = .ok (.putfield 39, 3) := by decide +kernel
theorem dX9_init_105 : decode cX9_init 105 = .ok (.aload_n 0, 1) := by decide +kernel
theorem dX9_init_106 : decode cX9_init 106 = .ok (.new 43, 3) := by decide +kernel
theorem dX9_init_109 : decode cX9_init 109 = .ok (.dup, 1) := by decide +kernel
theorem dX9_init_110 : decode cX9_init 110 = .ok (.invokespecial 45, 3) := by decide +kernel
theorem dX9_init_113 : decode cX9_init 113 = .ok (.putfield 46, 3) := by decide +kernel
theorem dX9_init_116 : decode cX9_init 116 = .ok (.aload_n 0, 1) := by decide +kernel
theorem dX9_init_117 : decode cX9_init 117 = .ok (.new 50, 3) := by decide +kernel
theorem dX9_init_120 : decode cX9_init 120 = .ok (.dup, 1) := by decide +kernel
theorem dX9_init_121 : decode cX9_init 121 = .ok (.invokespecial 52, 3) := by decide +kernel
theorem dX9_init_124 : decode cX9_init 124 = .ok (.putfield 53, 3) := by decide +kernel
theorem dX9_init_127 : decode cX9_init 127 = .ok (.aload_n 0, 1) := by decide +kernel
theorem dX9_init_128 : decode cX9_init 128 = .ok (.new 57, 3) := by decide +kernel
theorem dX9_init_131 : decode cX9_init 131 = .ok (.dup, 1) := by decide +kernel
theorem dX9_init_132 : decode cX9_init 132 = .ok (.invokespecial 59, 3) := by decide +kernel
theorem dX9_init_135 : decode cX9_init 135 = .ok (.putfield 60, 3) := by decide +kernel
theorem dX9_init_138 : decode cX9_init 138 = .ok (.return_, 1) := by decide +kernel
theorem dX9_append_0 : decode cX9_append 0 = .ok (.aload_n 0, 1) := by decide +kernel
theorem dX9_append_1 : decode cX9_append 1 = .ok (.getfield 46, 3) := by decide +kernel
theorem dX9_append_4 : decode cX9_append 4 = .ok (.iload_n 1, 1) := by decide +kernel
theorem dX9_append_5 : decode cX9_append 5 = .ok (.invokevirtual 64, 3) := by decide +kernel
theorem dX9_append_8 : decode cX9_append 8 = .ok (.ireturn, 1) := by decide +kernel
theorem dX9_clearText_0 : decode cX9_clearText 0 = .ok (.aload_n 0, 1) := by decide +kernel
theorem dX9_clearText_1 : decode cX9_clearText 1 = .ok (.getfield 46, 3) := by decide +kernel
theorem dX9_clearText_4 : decode cX9_clearText 4 = .ok (.invokevirtual 68, 3) := by decide +kernel
theorem dX9_clearText_7 : decode cX9_clearText 7 = .ok (.ireturn, 1) := by decide +kernel
theorem dX9_errorPosition_0 : decode cX9_errorPosition 0 = .ok (.aload_n 0, 1) := by decide +kernel
theorem dX9_errorPosition_1 : decode cX9_errorPosition 1 = .ok (.getfield 46, 3) := by decide +kernel
theorem dX9_errorPosition_4 : decode cX9_errorPosition 4 = .ok (.invokevirtual 72, 3) := by decide +kernel
theorem dX9_errorPosition_7 : decode cX9_errorPosition 7 = .ok (.ireturn, 1) := by decide +kernel
theorem dX9_load_0 : decode cX9_load 0 = .ok (.aload_n 0, 1) := by decide +kernel
theorem dX9_load_1 : decode cX9_load 1 = .ok (.getfield 46, 3) := by decide +kernel
theorem dX9_load_4 : decode cX9_load 4 = .ok (.invokevirtual 72, 3) := by decide +kernel
theorem dX9_load_7 : decode cX9_load 7 = .ok (.bipush (-9), 2) := by decide +kernel
theorem dX9_load_9 : decode cX9_load 9 = .ok (.if_icmp .eq 6, 3) := by decide +kernel
theorem dX9_load_12 : decode cX9_load 12 = .ok (.bipush (-3), 2) := by decide +kernel
theorem dX9_load_14 : decode cX9_load 14 = .ok (.ireturn, 1) := by decide +kernel
theorem dX9_load_15 : decode cX9_load 15 = .ok (.aload_n 0, 1) := by decide +kernel
theorem dX9_load_16 : decode cX9_load 16 = .ok (.getfield 12, 3) := by decide +kernel
theorem dX9_load_19 : decode cX9_load 19 = .ok (.aload_n 0, 1) := by decide +kernel
theorem dX9_load_20 : decode cX9_load 20 = .ok (.getfield 46, 3) := by decide +kernel
theorem dX9_load_23 : decode cX9_load 23 = .ok (.getfield 75, 3) := by decide +kernel
theorem dX9_load_26 : decode cX9_load 26 = .ok (.invokevirtual 78, 3) := by decide +kernel
theorem dX9_load_29 : decode cX9_load 29 = .ok (.aload_n 0, 1) := by decide +kernel
theorem dX9_load_30 : decode cX9_load 30 = .ok (.getfield 21, 3) := by decide +kernel
theorem dX9_load_33 : decode cX9_load 33 = .ok (.aload_n 0, 1) := by decide +kernel
theorem dX9_load_34 : decode cX9_load 34 = .ok (.getfield 46, 3) := by decide +kernel
theorem dX9_load_37 : decode cX9_load 37 = .ok (.getfield 81, 3) := by decide +kernel
theorem dX9_load_40 : decode cX9_load 40 = .ok (.invokevirtual 84, 3) := by decide +kernel
theorem dX9_load_43 : decode cX9_load 43 = .ok (.aload_n 0, 1) := by decide +kernel
theorem dX9_load_44 : decode cX9_load 44 = .ok (.getfield 39, 3) := by decide +kernel
theorem dX9_load_47 : decode cX9_load 47 = .ok (.invokevirtual 87, 3) := by decide +kernel
theorem dX9_load_50 : decode cX9_load 50 = .ok (.iconst 0, 1) := by decide +kernel
theorem dX9_load_51 : decode cX9_load 51 = .ok (.istore_n 1, 1) := by decide +kernel
theorem dX9_load_52 : decode cX9_load 52 = .ok (.iload_n 1, 1) := by decide +kernel
theorem dX9_load_53 : decode cX9_load 53 = .ok (.iconst 2, 1) := by decide +kernel
theorem dX9_load_54 : decode cX9_load 54 = .ok (.if_icmp .ge 16, 3) := by decide +kernel
theorem dX9_load_57 : decode cX9_load 57 = .ok (.aload_n 0, 1) := by decide +kernel
theorem dX9_load_58 : decode cX9_load 58 = .ok (.getfield 32, 3) := by decide +kernel
theorem dX9_load_61 : decode cX9_load 61 = .ok (.iload_n 1, 1) := by decide +kernel
theorem dX9_load_62 : decode cX9_load 62 = .ok (.iconst 0, 1) := by decide +kernel
theorem dX9_load_63 : decode cX9_load 63 = .ok (.bastore, 1) := by decide +kernel
theorem dX9_load_64 : decode cX9_load 64 = .ok (.iinc 1 1, 3) := by decide +kernel
theorem dX9_load_67 : decode cX9_load 67 = .ok (.goto (-15), 3) := by decide +kernel
theorem dX9_load_70 : decode cX9_load 70 = .ok (.aload_n 0, 1) := by decide +kernel
theorem dX9_load_71 : decode cX9_load 71 = .ok (.getfield 12, 3) := by decide +kernel
theorem dX9_load_74 : decode cX9_load 74 = .ok (.getfield 90, 3) := by decide +kernel
theorem dX9_load_77 : decode cX9_load 77 = .ok (.ireturn, 1) := by decide +kernel
theorem dX9_blockCount_0 : decode cX9_blockCount 0 = .ok (.aload_n 0, 1) := by decide +kernel
theorem dX9_blockCount_1 : decode cX9_blockCount 1 = .ok (.getfield 12, 3) := by decide +kernel
theorem dX9_blockCount_4 : decode cX9_blockCount 4 = .ok (.getfield 90, 3) := by decide +kernel
theorem dX9_blockCount_7 : decode cX9_blockCount 7 = .ok (.ireturn, 1) := by decide +kernel
theorem dX9_size_0 : decode cX9_size 0 = .ok (.aload_n 0, 1) := by decide +kernel
theorem dX9_size_1 : decode cX9_size 1 = .ok (.getfield 12, 3) := by decide +kernel
theorem dX9_size_4 : decode cX9_size 4 = .ok (.iload_n 1, 1) := by decide +kernel
theorem dX9_size_5 : decode cX9_size 5 = .ok (.invokevirtual 94, 3) := by decide +kernel
theorem dX9_size_8 : decode cX9_size 8 = .ok (.ifCond .eq 15, 3) := by decide +kernel
theorem dX9_size_11 : decode cX9_size 11 = .ok (.aload_n 0, 1) := by decide +kernel
theorem dX9_size_12 : decode cX9_size 12 = .ok (.getfield 12, 3) := by decide +kernel
theorem dX9_size_15 : decode cX9_size 15 = .ok (.getfield 98, 3) := by decide +kernel
theorem dX9_size_18 : decode cX9_size 18 = .ok (.iload_n 1, 1) := by decide +kernel
theorem dX9_size_19 : decode cX9_size 19 = .ok (.iaload, 1) := by decide +kernel
theorem dX9_size_20 : decode cX9_size 20 = .ok (.goto 4, 3) := by decide +kernel
theorem dX9_size_23 : decode cX9_size 23 = .ok (.iconst (-1), 1) := by decide +kernel
theorem dX9_size_24 : decode cX9_size 24 = .ok (.ireturn, 1) := by decide +kernel
theorem dX9_successor_0 : decode cX9_successor 0 = .ok (.aload_n 0, 1) := by decide +kernel
theorem dX9_successor_1 : decode cX9_successor 1 = .ok (.getfield 21, 3) := by decide +kernel
theorem dX9_successor_4 : decode cX9_successor 4 = .ok (.iload_n 1, 1) := by decide +kernel
theorem dX9_successor_5 : decode cX9_successor 5 = .ok (.iload_n 2, 1) := by decide +kernel
theorem dX9_successor_6 : decode cX9_successor 6 = .ok (.invokevirtual 102, 3) := by decide +kernel
theorem dX9_successor_9 : decode cX9_successor 9 = .ok (.ifCond .eq 15, 3) := by decide +kernel
theorem dX9_successor_12 : decode cX9_successor 12 = .ok (.aload_n 0, 1) := by decide +kernel
theorem dX9_successor_13 : decode cX9_successor 13 = .ok (.getfield 21, 3) := by decide +kernel
theorem dX9_successor_16 : decode cX9_successor 16 = .ok (.iload_n 1, 1) := by decide +kernel
theorem dX9_successor_17 : decode cX9_successor 17 = .ok (.iload_n 2, 1) := by decide +kernel
theorem dX9_successor_18 : decode cX9_successor 18 = .ok (.invokevirtual 106, 3) := by decide +kernel
theorem dX9_successor_21 : decode cX9_successor 21 = .ok (.goto 4, 3) := by decide +kernel
theorem dX9_successor_24 : decode cX9_successor 24 = .ok (.iconst (-1), 1) := by decide +kernel
theorem dX9_successor_25 : decode cX9_successor 25 = .ok (.ireturn, 1) := by decide +kernel
theorem dX9_edgeCount_0 : decode cX9_edgeCount 0 = .ok (.aload_n 0, 1) := by decide +kernel
theorem dX9_edgeCount_1 : decode cX9_edgeCount 1 = .ok (.getfield 21, 3) := by decide +kernel
theorem dX9_edgeCount_4 : decode cX9_edgeCount 4 = .ok (.iload_n 1, 1) := by decide +kernel
theorem dX9_edgeCount_5 : decode cX9_edgeCount 5 = .ok (.iload_n 2, 1) := by decide +kernel
theorem dX9_edgeCount_6 : decode cX9_edgeCount 6 = .ok (.invokevirtual 102, 3) := by decide +kernel
theorem dX9_edgeCount_9 : decode cX9_edgeCount 9 = .ok (.ifCond .eq 15, 3) := by decide +kernel
theorem dX9_edgeCount_12 : decode cX9_edgeCount 12 = .ok (.aload_n 0, 1) := by decide +kernel
theorem dX9_edgeCount_13 : decode cX9_edgeCount 13 = .ok (.getfield 21, 3) := by decide +kernel
theorem dX9_edgeCount_16 : decode cX9_edgeCount 16 = .ok (.iload_n 1, 1) := by decide +kernel
theorem dX9_edgeCount_17 : decode cX9_edgeCount 17 = .ok (.iload_n 2, 1) := by decide +kernel
theorem dX9_edgeCount_18 : decode cX9_edgeCount 18 = .ok (.invokevirtual 110, 3) := by decide +kernel
theorem dX9_edgeCount_21 : decode cX9_edgeCount 21 = .ok (.goto 4, 3) := by decide +kernel
theorem dX9_edgeCount_24 : decode cX9_edgeCount 24 = .ok (.iconst (-1), 1) := by decide +kernel
theorem dX9_edgeCount_25 : decode cX9_edgeCount 25 = .ok (.ireturn, 1) := by decide +kernel
theorem dX9_executions_0 : decode cX9_executions 0 = .ok (.aload_n 0, 1) := by decide +kernel
theorem dX9_executions_1 : decode cX9_executions 1 = .ok (.getfield 12, 3) := by decide +kernel
theorem dX9_executions_4 : decode cX9_executions 4 = .ok (.iload_n 1, 1) := by decide +kernel
theorem dX9_executions_5 : decode cX9_executions 5 = .ok (.invokevirtual 94, 3) := by decide +kernel
theorem dX9_executions_8 : decode cX9_executions 8 = .ok (.ifCond .eq 14, 3) := by decide +kernel
theorem dX9_executions_11 : decode cX9_executions 11 = .ok (.aload_n 0, 1) := by decide +kernel
theorem dX9_executions_12 : decode cX9_executions 12 = .ok (.getfield 21, 3) := by decide +kernel
theorem dX9_executions_15 : decode cX9_executions 15 = .ok (.iload_n 1, 1) := by decide +kernel
theorem dX9_executions_16 : decode cX9_executions 16 = .ok (.invokevirtual 113, 3) := by decide +kernel
theorem dX9_executions_19 : decode cX9_executions 19 = .ok (.goto 4, 3) := by decide +kernel
theorem dX9_executions_22 : decode cX9_executions 22 = .ok (.iconst (-1), 1) := by decide +kernel
theorem dX9_executions_23 : decode cX9_executions 23 = .ok (.ireturn, 1) := by decide +kernel
theorem dX9_blockAt_0 : decode cX9_blockAt 0 = .ok (.aload_n 0, 1) := by decide +kernel
theorem dX9_blockAt_1 : decode cX9_blockAt 1 = .ok (.getfield 12, 3) := by decide +kernel
theorem dX9_blockAt_4 : decode cX9_blockAt 4 = .ok (.iload_n 1, 1) := by decide +kernel
theorem dX9_blockAt_5 : decode cX9_blockAt 5 = .ok (.invokevirtual 116, 3) := by decide +kernel
theorem dX9_blockAt_8 : decode cX9_blockAt 8 = .ok (.ifCond .eq 15, 3) := by decide +kernel
theorem dX9_blockAt_11 : decode cX9_blockAt 11 = .ok (.aload_n 0, 1) := by decide +kernel
theorem dX9_blockAt_12 : decode cX9_blockAt 12 = .ok (.getfield 21, 3) := by decide +kernel
theorem dX9_blockAt_15 : decode cX9_blockAt 15 = .ok (.getfield 119, 3) := by decide +kernel
theorem dX9_blockAt_18 : decode cX9_blockAt 18 = .ok (.iload_n 1, 1) := by decide +kernel
theorem dX9_blockAt_19 : decode cX9_blockAt 19 = .ok (.iaload, 1) := by decide +kernel
theorem dX9_blockAt_20 : decode cX9_blockAt 20 = .ok (.goto 4, 3) := by decide +kernel
theorem dX9_blockAt_23 : decode cX9_blockAt 23 = .ok (.iconst (-1), 1) := by decide +kernel
theorem dX9_blockAt_24 : decode cX9_blockAt 24 = .ok (.ireturn, 1) := by decide +kernel
theorem dX9_hotCount_0 : decode cX9_hotCount 0 = .ok (.aload_n 0, 1) := by decide +kernel
theorem dX9_hotCount_1 : decode cX9_hotCount 1 = .ok (.getfield 21, 3) := by decide +kernel
theorem dX9_hotCount_4 : decode cX9_hotCount 4 = .ok (.getfield 122, 3) := by decide +kernel
theorem dX9_hotCount_7 : decode cX9_hotCount 7 = .ok (.ireturn, 1) := by decide +kernel
theorem dX9_cost_0 : decode cX9_cost 0 = .ok (.aload_n 0, 1) := by decide +kernel
theorem dX9_cost_1 : decode cX9_cost 1 = .ok (.getfield 21, 3) := by decide +kernel
theorem dX9_cost_4 : decode cX9_cost 4 = .ok (.invokevirtual 125, 3) := by decide +kernel
theorem dX9_cost_7 : decode cX9_cost 7 = .ok (.ireturn, 1) := by decide +kernel
theorem dX9_codeSize_0 : decode cX9_codeSize 0 = .ok (.aload_n 0, 1) := by decide +kernel
theorem dX9_codeSize_1 : decode cX9_codeSize 1 = .ok (.getfield 21, 3) := by decide +kernel
theorem dX9_codeSize_4 : decode cX9_codeSize 4 = .ok (.invokestatic 128, 3) := by decide +kernel
theorem dX9_codeSize_7 : decode cX9_codeSize 7 = .ok (.ireturn, 1) := by decide +kernel
theorem dX9_address_0 : decode cX9_address 0 = .ok (.aload_n 0, 1) := by decide +kernel
theorem dX9_address_1 : decode cX9_address 1 = .ok (.getfield 12, 3) := by decide +kernel
theorem dX9_address_4 : decode cX9_address 4 = .ok (.iload_n 1, 1) := by decide +kernel
theorem dX9_address_5 : decode cX9_address 5 = .ok (.invokevirtual 94, 3) := by decide +kernel
theorem dX9_address_8 : decode cX9_address 8 = .ok (.ifCond .eq 14, 3) := by decide +kernel
theorem dX9_address_11 : decode cX9_address 11 = .ok (.aload_n 0, 1) := by decide +kernel
theorem dX9_address_12 : decode cX9_address 12 = .ok (.getfield 21, 3) := by decide +kernel
theorem dX9_address_15 : decode cX9_address 15 = .ok (.iload_n 1, 1) := by decide +kernel
theorem dX9_address_16 : decode cX9_address 16 = .ok (.invokestatic 134, 3) := by decide +kernel
theorem dX9_address_19 : decode cX9_address 19 = .ok (.goto 4, 3) := by decide +kernel
theorem dX9_address_22 : decode cX9_address 22 = .ok (.iconst (-1), 1) := by decide +kernel
theorem dX9_address_23 : decode cX9_address 23 = .ok (.ireturn, 1) := by decide +kernel
theorem dX9_branchBytes_0 : decode cX9_branchBytes 0 = .ok (.aload_n 0, 1) := by decide +kernel
theorem dX9_branchBytes_1 : decode cX9_branchBytes 1 = .ok (.getfield 12, 3) := by decide +kernel
theorem dX9_branchBytes_4 : decode cX9_branchBytes 4 = .ok (.iload_n 1, 1) := by decide +kernel
theorem dX9_branchBytes_5 : decode cX9_branchBytes 5 = .ok (.invokevirtual 94, 3) := by decide +kernel
theorem dX9_branchBytes_8 : decode cX9_branchBytes 8 = .ok (.ifCond .eq 22, 3) := by decide +kernel
theorem dX9_branchBytes_11 : decode cX9_branchBytes 11 = .ok (.aload_n 0, 1) := by decide +kernel
theorem dX9_branchBytes_12 : decode cX9_branchBytes 12 = .ok (.getfield 21, 3) := by decide +kernel
theorem dX9_branchBytes_15 : decode cX9_branchBytes 15 = .ok (.iload_n 1, 1) := by decide +kernel
theorem dX9_branchBytes_16 : decode cX9_branchBytes 16 = .ok (.aload_n 0, 1) := by decide +kernel
theorem dX9_branchBytes_17 : decode cX9_branchBytes 17 = .ok (.getfield 21, 3) := by decide +kernel
theorem dX9_branchBytes_20 : decode cX9_branchBytes 20 = .ok (.iload_n 1, 1) := by decide +kernel
theorem dX9_branchBytes_21 : decode cX9_branchBytes 21 = .ok (.invokevirtual 138, 3) := by decide +kernel
theorem dX9_branchBytes_24 : decode cX9_branchBytes 24 = .ok (.invokevirtual 141, 3) := by decide +kernel
theorem dX9_branchBytes_27 : decode cX9_branchBytes 27 = .ok (.goto 4, 3) := by decide +kernel
theorem dX9_branchBytes_30 : decode cX9_branchBytes 30 = .ok (.iconst (-1), 1) := by decide +kernel
theorem dX9_branchBytes_31 : decode cX9_branchBytes 31 = .ok (.ireturn, 1) := by decide +kernel
theorem dX9_edgeCost_0 : decode cX9_edgeCost 0 = .ok (.aload_n 0, 1) := by decide +kernel
theorem dX9_edgeCost_1 : decode cX9_edgeCost 1 = .ok (.getfield 21, 3) := by decide +kernel
theorem dX9_edgeCost_4 : decode cX9_edgeCost 4 = .ok (.iload_n 1, 1) := by decide +kernel
theorem dX9_edgeCost_5 : decode cX9_edgeCost 5 = .ok (.iload_n 2, 1) := by decide +kernel
theorem dX9_edgeCost_6 : decode cX9_edgeCost 6 = .ok (.invokevirtual 102, 3) := by decide +kernel
theorem dX9_edgeCost_9 : decode cX9_edgeCost 9 = .ok (.ifCond .eq 23, 3) := by decide +kernel
theorem dX9_edgeCost_12 : decode cX9_edgeCost 12 = .ok (.aload_n 0, 1) := by decide +kernel
theorem dX9_edgeCost_13 : decode cX9_edgeCost 13 = .ok (.getfield 21, 3) := by decide +kernel
theorem dX9_edgeCost_16 : decode cX9_edgeCost 16 = .ok (.iload_n 1, 1) := by decide +kernel
theorem dX9_edgeCost_17 : decode cX9_edgeCost 17 = .ok (.iload_n 2, 1) := by decide +kernel
theorem dX9_edgeCost_18 : decode cX9_edgeCost 18 = .ok (.aload_n 0, 1) := by decide +kernel
theorem dX9_edgeCost_19 : decode cX9_edgeCost 19 = .ok (.getfield 21, 3) := by decide +kernel
theorem dX9_edgeCost_22 : decode cX9_edgeCost 22 = .ok (.iload_n 1, 1) := by decide +kernel
theorem dX9_edgeCost_23 : decode cX9_edgeCost 23 = .ok (.invokevirtual 138, 3) := by decide +kernel
theorem dX9_edgeCost_26 : decode cX9_edgeCost 26 = .ok (.invokevirtual 144, 3) := by decide +kernel
theorem dX9_edgeCost_29 : decode cX9_edgeCost 29 = .ok (.goto 4, 3) := by decide +kernel
theorem dX9_edgeCost_32 : decode cX9_edgeCost 32 = .ok (.iconst (-1), 1) := by decide +kernel
theorem dX9_edgeCost_33 : decode cX9_edgeCost 33 = .ok (.ireturn, 1) := by decide +kernel
theorem dX9_chainHead_0 : decode cX9_chainHead 0 = .ok (.aload_n 0, 1) := by decide +kernel
theorem dX9_chainHead_1 : decode cX9_chainHead 1 = .ok (.getfield 12, 3) := by decide +kernel
theorem dX9_chainHead_4 : decode cX9_chainHead 4 = .ok (.iload_n 1, 1) := by decide +kernel
theorem dX9_chainHead_5 : decode cX9_chainHead 5 = .ok (.invokevirtual 94, 3) := by decide +kernel
theorem dX9_chainHead_8 : decode cX9_chainHead 8 = .ok (.ifCond .ne 5, 3) := by decide +kernel
theorem dX9_chainHead_11 : decode cX9_chainHead 11 = .ok (.iconst (-1), 1) := by decide +kernel
theorem dX9_chainHead_12 : decode cX9_chainHead 12 = .ok (.ireturn, 1) := by decide +kernel
theorem dX9_chainHead_13 : decode cX9_chainHead 13 = .ok (.aload_n 0, 1) := by decide +kernel
theorem dX9_chainHead_14 : decode cX9_chainHead 14 = .ok (.getfield 53, 3) := by decide +kernel
theorem dX9_chainHead_17 : decode cX9_chainHead 17 = .ok (.aload_n 0, 1) := by decide +kernel
theorem dX9_chainHead_18 : decode cX9_chainHead 18 = .ok (.getfield 21, 3) := by decide +kernel
theorem dX9_chainHead_21 : decode cX9_chainHead 21 = .ok (.invokevirtual 148, 3) := by decide +kernel
theorem dX9_chainHead_24 : decode cX9_chainHead 24 = .ok (.aload_n 0, 1) := by decide +kernel
theorem dX9_chainHead_25 : decode cX9_chainHead 25 = .ok (.getfield 53, 3) := by decide +kernel
theorem dX9_chainHead_28 : decode cX9_chainHead 28 = .ok (.getfield 151, 3) := by decide +kernel
theorem dX9_chainHead_31 : decode cX9_chainHead 31 = .ok (.iload_n 1, 1) := by decide +kernel
theorem dX9_chainHead_32 : decode cX9_chainHead 32 = .ok (.iaload, 1) := by decide +kernel
theorem dX9_chainHead_33 : decode cX9_chainHead 33 = .ok (.ireturn, 1) := by decide +kernel
theorem dX9_optimalCost_0 : decode cX9_optimalCost 0 = .ok (.aload_n 0, 1) := by decide +kernel
theorem dX9_optimalCost_1 : decode cX9_optimalCost 1 = .ok (.getfield 60, 3) := by decide +kernel
theorem dX9_optimalCost_4 : decode cX9_optimalCost 4 = .ok (.aload_n 0, 1) := by decide +kernel
theorem dX9_optimalCost_5 : decode cX9_optimalCost 5 = .ok (.getfield 21, 3) := by decide +kernel
theorem dX9_optimalCost_8 : decode cX9_optimalCost 8 = .ok (.invokevirtual 154, 3) := by decide +kernel
theorem dX9_optimalCost_11 : decode cX9_optimalCost 11 = .ok (.ireturn, 1) := by decide +kernel
theorem dX9_bestRotation_0 : decode cX9_bestRotation 0 = .ok (.aload_n 0, 1) := by decide +kernel
theorem dX9_bestRotation_1 : decode cX9_bestRotation 1 = .ok (.getfield 21, 3) := by decide +kernel
theorem dX9_bestRotation_4 : decode cX9_bestRotation 4 = .ok (.iload_n 1, 1) := by decide +kernel
theorem dX9_bestRotation_5 : decode cX9_bestRotation 5 = .ok (.iload_n 2, 1) := by decide +kernel
theorem dX9_bestRotation_6 : decode cX9_bestRotation 6 = .ok (.invokevirtual 157, 3) := by decide +kernel
theorem dX9_bestRotation_9 : decode cX9_bestRotation 9 = .ok (.istore_n 3, 1) := by decide +kernel
theorem dX9_bestRotation_10 : decode cX9_bestRotation 10 = .ok (.iload_n 3, 1) := by decide +kernel
theorem dX9_bestRotation_11 : decode cX9_bestRotation 11 = .ok (.ifCond .eq 5, 3) := by decide +kernel
theorem dX9_bestRotation_14 : decode cX9_bestRotation 14 = .ok (.iload_n 3, 1) := by decide +kernel
theorem dX9_bestRotation_15 : decode cX9_bestRotation 15 = .ok (.ireturn, 1) := by decide +kernel
theorem dX9_bestRotation_16 : decode cX9_bestRotation 16 = .ok (.aload_n 0, 1) := by decide +kernel
theorem dX9_bestRotation_17 : decode cX9_bestRotation 17 = .ok (.getfield 25, 3) := by decide +kernel
theorem dX9_bestRotation_20 : decode cX9_bestRotation 20 = .ok (.aload_n 0, 1) := by decide +kernel
theorem dX9_bestRotation_21 : decode cX9_bestRotation 21 = .ok (.getfield 21, 3) := by decide +kernel
theorem dX9_bestRotation_24 : decode cX9_bestRotation 24 = .ok (.invokevirtual 84, 3) := by decide +kernel
theorem dX9_bestRotation_27 : decode cX9_bestRotation 27 = .ok (.iconst 0, 1) := by decide +kernel
theorem dX9_bestRotation_28 : decode cX9_bestRotation 28 = .ok (.istore 4, 2) := by decide +kernel
theorem dX9_bestRotation_30 : decode cX9_bestRotation 30 = .ok (.aload_n 0, 1) := by decide +kernel
theorem dX9_bestRotation_31 : decode cX9_bestRotation 31 = .ok (.getfield 25, 3) := by decide +kernel
theorem dX9_bestRotation_34 : decode cX9_bestRotation 34 = .ok (.invokevirtual 125, 3) := by decide +kernel
theorem dX9_bestRotation_37 : decode cX9_bestRotation 37 = .ok (.istore 5, 2) := by decide +kernel
theorem dX9_bestRotation_39 : decode cX9_bestRotation 39 = .ok (.iconst 1, 1) := by decide +kernel
theorem dX9_bestRotation_40 : decode cX9_bestRotation 40 = .ok (.istore 6, 2) := by decide +kernel
theorem dX9_bestRotation_42 : decode cX9_bestRotation 42 = .ok (.iload 6, 2) := by decide +kernel
theorem dX9_bestRotation_44 : decode cX9_bestRotation 44 = .ok (.iload_n 2, 1) := by decide +kernel
theorem dX9_bestRotation_45 : decode cX9_bestRotation 45 = .ok (.iload_n 1, 1) := by decide +kernel
theorem dX9_bestRotation_46 : decode cX9_bestRotation 46 = .ok (.isub, 1) := by decide +kernel
theorem dX9_bestRotation_47 : decode cX9_bestRotation 47 = .ok (.if_icmp .gt 42, 3) := by decide +kernel
theorem dX9_bestRotation_50 : decode cX9_bestRotation 50 = .ok (.aload_n 0, 1) := by decide +kernel
theorem dX9_bestRotation_51 : decode cX9_bestRotation 51 = .ok (.getfield 25, 3) := by decide +kernel
theorem dX9_bestRotation_54 : decode cX9_bestRotation 54 = .ok (.iload_n 1, 1) := by decide +kernel
theorem dX9_bestRotation_55 : decode cX9_bestRotation 55 = .ok (.iload_n 2, 1) := by decide +kernel
theorem dX9_bestRotation_56 : decode cX9_bestRotation 56 = .ok (.invokevirtual 160, 3) := by decide +kernel
theorem dX9_bestRotation_59 : decode cX9_bestRotation 59 = .ok (.aload_n 0, 1) := by decide +kernel
theorem dX9_bestRotation_60 : decode cX9_bestRotation 60 = .ok (.getfield 25, 3) := by decide +kernel
theorem dX9_bestRotation_63 : decode cX9_bestRotation 63 = .ok (.invokevirtual 125, 3) := by decide +kernel
theorem dX9_bestRotation_66 : decode cX9_bestRotation 66 = .ok (.istore 7, 2) := by decide +kernel
theorem dX9_bestRotation_68 : decode cX9_bestRotation 68 = .ok (.iload 7, 2) := by decide +kernel
theorem dX9_bestRotation_70 : decode cX9_bestRotation 70 = .ok (.iload 5, 2) := by decide +kernel
theorem dX9_bestRotation_72 : decode cX9_bestRotation 72 = .ok (.if_icmp .ge 11, 3) := by decide +kernel
theorem dX9_bestRotation_75 : decode cX9_bestRotation 75 = .ok (.iload 6, 2) := by decide +kernel
theorem dX9_bestRotation_77 : decode cX9_bestRotation 77 = .ok (.istore 4, 2) := by decide +kernel
theorem dX9_bestRotation_79 : decode cX9_bestRotation 79 = .ok (.iload 7, 2) := by decide +kernel
theorem dX9_bestRotation_81 : decode cX9_bestRotation 81 = .ok (.istore 5, 2) := by decide +kernel
theorem dX9_bestRotation_83 : decode cX9_bestRotation 83 = .ok (.iinc 6 1, 3) := by decide +kernel
theorem dX9_bestRotation_86 : decode cX9_bestRotation 86 = .ok (.goto (-44), 3) := by decide +kernel
theorem dX9_bestRotation_89 : decode cX9_bestRotation 89 = .ok (.iload 4, 2) := by decide +kernel
theorem dX9_bestRotation_91 : decode cX9_bestRotation 91 = .ok (.ireturn, 1) := by decide +kernel
theorem dX9_orderByChains_0 : decode cX9_orderByChains 0 = .ok (.aload_n 0, 1) := by decide +kernel
theorem dX9_orderByChains_1 : decode cX9_orderByChains 1 = .ok (.getfield 39, 3) := by decide +kernel
theorem dX9_orderByChains_4 : decode cX9_orderByChains 4 = .ok (.aload_n 0, 1) := by decide +kernel
theorem dX9_orderByChains_5 : decode cX9_orderByChains 5 = .ok (.getfield 21, 3) := by decide +kernel
theorem dX9_orderByChains_8 : decode cX9_orderByChains 8 = .ok (.invokevirtual 164, 3) := by decide +kernel
theorem dX9_orderByChains_11 : decode cX9_orderByChains 11 = .ok (.aload_n 0, 1) := by decide +kernel
theorem dX9_orderByChains_12 : decode cX9_orderByChains 12 = .ok (.getfield 53, 3) := by decide +kernel
theorem dX9_orderByChains_15 : decode cX9_orderByChains 15 = .ok (.aload_n 0, 1) := by decide +kernel
theorem dX9_orderByChains_16 : decode cX9_orderByChains 16 = .ok (.getfield 21, 3) := by decide +kernel
theorem dX9_orderByChains_19 : decode cX9_orderByChains 19 = .ok (.invokevirtual 148, 3) := by decide +kernel
theorem dX9_orderByChains_22 : decode cX9_orderByChains 22 = .ok (.aload_n 0, 1) := by decide +kernel
theorem dX9_orderByChains_23 : decode cX9_orderByChains 23 = .ok (.getfield 53, 3) := by decide +kernel
theorem dX9_orderByChains_26 : decode cX9_orderByChains 26 = .ok (.aload_n 0, 1) := by decide +kernel
theorem dX9_orderByChains_27 : decode cX9_orderByChains 27 = .ok (.getfield 21, 3) := by decide +kernel
theorem dX9_orderByChains_30 : decode cX9_orderByChains 30 = .ok (.invokevirtual 167, 3) := by decide +kernel
theorem dX9_orderByChains_33 : decode cX9_orderByChains 33 = .ok (.aload_n 0, 1) := by decide +kernel
theorem dX9_orderByChains_34 : decode cX9_orderByChains 34 = .ok (.getfield 21, 3) := by decide +kernel
theorem dX9_orderByChains_37 : decode cX9_orderByChains 37 = .ok (.invokevirtual 125, 3) := by decide +kernel
theorem dX9_orderByChains_40 : decode cX9_orderByChains 40 = .ok (.ireturn, 1) := by decide +kernel
theorem dX9_orderOptimally_0 : decode cX9_orderOptimally 0 = .ok (.aload_n 0, 1) := by decide +kernel
theorem dX9_orderOptimally_1 : decode cX9_orderOptimally 1 = .ok (.getfield 39, 3) := by decide +kernel
theorem dX9_orderOptimally_4 : decode cX9_orderOptimally 4 = .ok (.aload_n 0, 1) := by decide +kernel
theorem dX9_orderOptimally_5 : decode cX9_orderOptimally 5 = .ok (.getfield 21, 3) := by decide +kernel
theorem dX9_orderOptimally_8 : decode cX9_orderOptimally 8 = .ok (.invokevirtual 164, 3) := by decide +kernel
theorem dX9_orderOptimally_11 : decode cX9_orderOptimally 11 = .ok (.aload_n 0, 1) := by decide +kernel
theorem dX9_orderOptimally_12 : decode cX9_orderOptimally 12 = .ok (.getfield 60, 3) := by decide +kernel
theorem dX9_orderOptimally_15 : decode cX9_orderOptimally 15 = .ok (.aload_n 0, 1) := by decide +kernel
theorem dX9_orderOptimally_16 : decode cX9_orderOptimally 16 = .ok (.getfield 21, 3) := by decide +kernel
theorem dX9_orderOptimally_19 : decode cX9_orderOptimally 19 = .ok (.invokevirtual 170, 3) := by decide +kernel
theorem dX9_orderOptimally_22 : decode cX9_orderOptimally 22 = .ok (.aload_n 0, 1) := by decide +kernel
theorem dX9_orderOptimally_23 : decode cX9_orderOptimally 23 = .ok (.getfield 21, 3) := by decide +kernel
theorem dX9_orderOptimally_26 : decode cX9_orderOptimally 26 = .ok (.invokevirtual 125, 3) := by decide +kernel
theorem dX9_orderOptimally_29 : decode cX9_orderOptimally 29 = .ok (.ireturn, 1) := by decide +kernel
theorem dX9_swap_0 : decode cX9_swap 0 = .ok (.aload_n 0, 1) := by decide +kernel
theorem dX9_swap_1 : decode cX9_swap 1 = .ok (.getfield 21, 3) := by decide +kernel
theorem dX9_swap_4 : decode cX9_swap 4 = .ok (.iload_n 1, 1) := by decide +kernel
theorem dX9_swap_5 : decode cX9_swap 5 = .ok (.iload_n 2, 1) := by decide +kernel
theorem dX9_swap_6 : decode cX9_swap 6 = .ok (.invokevirtual 171, 3) := by decide +kernel
theorem dX9_swap_9 : decode cX9_swap 9 = .ok (.istore_n 3, 1) := by decide +kernel
theorem dX9_swap_10 : decode cX9_swap 10 = .ok (.iload_n 3, 1) := by decide +kernel
theorem dX9_swap_11 : decode cX9_swap 11 = .ok (.ifCond .eq 5, 3) := by decide +kernel
theorem dX9_swap_14 : decode cX9_swap 14 = .ok (.iload_n 3, 1) := by decide +kernel
theorem dX9_swap_15 : decode cX9_swap 15 = .ok (.ireturn, 1) := by decide +kernel
theorem dX9_swap_16 : decode cX9_swap 16 = .ok (.aload_n 0, 1) := by decide +kernel
theorem dX9_swap_17 : decode cX9_swap 17 = .ok (.getfield 39, 3) := by decide +kernel
theorem dX9_swap_20 : decode cX9_swap 20 = .ok (.aload_n 0, 1) := by decide +kernel
theorem dX9_swap_21 : decode cX9_swap 21 = .ok (.getfield 21, 3) := by decide +kernel
theorem dX9_swap_24 : decode cX9_swap 24 = .ok (.invokevirtual 164, 3) := by decide +kernel
theorem dX9_swap_27 : decode cX9_swap 27 = .ok (.aload_n 0, 1) := by decide +kernel
theorem dX9_swap_28 : decode cX9_swap 28 = .ok (.getfield 21, 3) := by decide +kernel
theorem dX9_swap_31 : decode cX9_swap 31 = .ok (.iload_n 1, 1) := by decide +kernel
theorem dX9_swap_32 : decode cX9_swap 32 = .ok (.iload_n 2, 1) := by decide +kernel
theorem dX9_swap_33 : decode cX9_swap 33 = .ok (.invokevirtual 174, 3) := by decide +kernel
theorem dX9_swap_36 : decode cX9_swap 36 = .ok (.aload_n 0, 1) := by decide +kernel
theorem dX9_swap_37 : decode cX9_swap 37 = .ok (.getfield 21, 3) := by decide +kernel
theorem dX9_swap_40 : decode cX9_swap 40 = .ok (.invokevirtual 125, 3) := by decide +kernel
theorem dX9_swap_43 : decode cX9_swap 43 = .ok (.ireturn, 1) := by decide +kernel
theorem dX9_rotate_0 : decode cX9_rotate 0 = .ok (.aload_n 0, 1) := by decide +kernel
theorem dX9_rotate_1 : decode cX9_rotate 1 = .ok (.getfield 21, 3) := by decide +kernel
theorem dX9_rotate_4 : decode cX9_rotate 4 = .ok (.iload_n 1, 1) := by decide +kernel
theorem dX9_rotate_5 : decode cX9_rotate 5 = .ok (.iload_n 2, 1) := by decide +kernel
theorem dX9_rotate_6 : decode cX9_rotate 6 = .ok (.invokevirtual 157, 3) := by decide +kernel
theorem dX9_rotate_9 : decode cX9_rotate 9 = .ok (.istore_n 3, 1) := by decide +kernel
theorem dX9_rotate_10 : decode cX9_rotate 10 = .ok (.iload_n 3, 1) := by decide +kernel
theorem dX9_rotate_11 : decode cX9_rotate 11 = .ok (.ifCond .eq 5, 3) := by decide +kernel
theorem dX9_rotate_14 : decode cX9_rotate 14 = .ok (.iload_n 3, 1) := by decide +kernel
theorem dX9_rotate_15 : decode cX9_rotate 15 = .ok (.ireturn, 1) := by decide +kernel
theorem dX9_rotate_16 : decode cX9_rotate 16 = .ok (.aload_n 0, 1) := by decide +kernel
theorem dX9_rotate_17 : decode cX9_rotate 17 = .ok (.getfield 39, 3) := by decide +kernel
theorem dX9_rotate_20 : decode cX9_rotate 20 = .ok (.aload_n 0, 1) := by decide +kernel
theorem dX9_rotate_21 : decode cX9_rotate 21 = .ok (.getfield 21, 3) := by decide +kernel
theorem dX9_rotate_24 : decode cX9_rotate 24 = .ok (.invokevirtual 164, 3) := by decide +kernel
theorem dX9_rotate_27 : decode cX9_rotate 27 = .ok (.aload_n 0, 1) := by decide +kernel
theorem dX9_rotate_28 : decode cX9_rotate 28 = .ok (.getfield 21, 3) := by decide +kernel
theorem dX9_rotate_31 : decode cX9_rotate 31 = .ok (.iload_n 1, 1) := by decide +kernel
theorem dX9_rotate_32 : decode cX9_rotate 32 = .ok (.iload_n 2, 1) := by decide +kernel
theorem dX9_rotate_33 : decode cX9_rotate 33 = .ok (.invokevirtual 160, 3) := by decide +kernel
theorem dX9_rotate_36 : decode cX9_rotate 36 = .ok (.aload_n 0, 1) := by decide +kernel
theorem dX9_rotate_37 : decode cX9_rotate 37 = .ok (.getfield 21, 3) := by decide +kernel
theorem dX9_rotate_40 : decode cX9_rotate 40 = .ok (.invokevirtual 125, 3) := by decide +kernel
theorem dX9_rotate_43 : decode cX9_rotate 43 = .ok (.ireturn, 1) := by decide +kernel
theorem dX9_split_0 : decode cX9_split 0 = .ok (.iload_n 1, 1) := by decide +kernel
theorem dX9_split_1 : decode cX9_split 1 = .ok (.invokestatic 177, 3) := by decide +kernel
theorem dX9_split_4 : decode cX9_split 4 = .ok (.istore_n 2, 1) := by decide +kernel
theorem dX9_split_5 : decode cX9_split 5 = .ok (.iload_n 2, 1) := by decide +kernel
theorem dX9_split_6 : decode cX9_split 6 = .ok (.ifCond .eq 5, 3) := by decide +kernel
theorem dX9_split_9 : decode cX9_split 9 = .ok (.iload_n 2, 1) := by decide +kernel
theorem dX9_split_10 : decode cX9_split 10 = .ok (.ireturn, 1) := by decide +kernel
theorem dX9_split_11 : decode cX9_split 11 = .ok (.aload_n 0, 1) := by decide +kernel
theorem dX9_split_12 : decode cX9_split 12 = .ok (.getfield 39, 3) := by decide +kernel
theorem dX9_split_15 : decode cX9_split 15 = .ok (.aload_n 0, 1) := by decide +kernel
theorem dX9_split_16 : decode cX9_split 16 = .ok (.getfield 21, 3) := by decide +kernel
theorem dX9_split_19 : decode cX9_split 19 = .ok (.invokevirtual 164, 3) := by decide +kernel
theorem dX9_split_22 : decode cX9_split 22 = .ok (.aload_n 0, 1) := by decide +kernel
theorem dX9_split_23 : decode cX9_split 23 = .ok (.getfield 21, 3) := by decide +kernel
theorem dX9_split_26 : decode cX9_split 26 = .ok (.iload_n 1, 1) := by decide +kernel
theorem dX9_split_27 : decode cX9_split 27 = .ok (.invokevirtual 180, 3) := by decide +kernel
theorem dX9_split_30 : decode cX9_split 30 = .ok (.aload_n 0, 1) := by decide +kernel
theorem dX9_split_31 : decode cX9_split 31 = .ok (.getfield 21, 3) := by decide +kernel
theorem dX9_split_34 : decode cX9_split 34 = .ok (.getfield 122, 3) := by decide +kernel
theorem dX9_split_37 : decode cX9_split 37 = .ok (.ireturn, 1) := by decide +kernel
theorem dX9_bypass_0 : decode cX9_bypass 0 = .ok (.aload_n 0, 1) := by decide +kernel
theorem dX9_bypass_1 : decode cX9_bypass 1 = .ok (.getfield 21, 3) := by decide +kernel
theorem dX9_bypass_4 : decode cX9_bypass 4 = .ok (.iload_n 1, 1) := by decide +kernel
theorem dX9_bypass_5 : decode cX9_bypass 5 = .ok (.invokevirtual 184, 3) := by decide +kernel
theorem dX9_bypass_8 : decode cX9_bypass 8 = .ok (.istore_n 2, 1) := by decide +kernel
theorem dX9_bypass_9 : decode cX9_bypass 9 = .ok (.iload_n 2, 1) := by decide +kernel
theorem dX9_bypass_10 : decode cX9_bypass 10 = .ok (.ifCond .eq 5, 3) := by decide +kernel
theorem dX9_bypass_13 : decode cX9_bypass 13 = .ok (.iload_n 2, 1) := by decide +kernel
theorem dX9_bypass_14 : decode cX9_bypass 14 = .ok (.ireturn, 1) := by decide +kernel
theorem dX9_bypass_15 : decode cX9_bypass 15 = .ok (.aload_n 0, 1) := by decide +kernel
theorem dX9_bypass_16 : decode cX9_bypass 16 = .ok (.getfield 39, 3) := by decide +kernel
theorem dX9_bypass_19 : decode cX9_bypass 19 = .ok (.aload_n 0, 1) := by decide +kernel
theorem dX9_bypass_20 : decode cX9_bypass 20 = .ok (.getfield 21, 3) := by decide +kernel
theorem dX9_bypass_23 : decode cX9_bypass 23 = .ok (.invokevirtual 164, 3) := by decide +kernel
theorem dX9_bypass_26 : decode cX9_bypass 26 = .ok (.aload_n 0, 1) := by decide +kernel
theorem dX9_bypass_27 : decode cX9_bypass 27 = .ok (.getfield 21, 3) := by decide +kernel
theorem dX9_bypass_30 : decode cX9_bypass 30 = .ok (.iload_n 1, 1) := by decide +kernel
theorem dX9_bypass_31 : decode cX9_bypass 31 = .ok (.invokevirtual 187, 3) := by decide +kernel
theorem dX9_bypass_34 : decode cX9_bypass 34 = .ok (.ireturn, 1) := by decide +kernel
theorem dX9_setCount_0 : decode cX9_setCount 0 = .ok (.aload_n 0, 1) := by decide +kernel
theorem dX9_setCount_1 : decode cX9_setCount 1 = .ok (.getfield 21, 3) := by decide +kernel
theorem dX9_setCount_4 : decode cX9_setCount 4 = .ok (.iload_n 1, 1) := by decide +kernel
theorem dX9_setCount_5 : decode cX9_setCount 5 = .ok (.iload_n 2, 1) := by decide +kernel
theorem dX9_setCount_6 : decode cX9_setCount 6 = .ok (.invokevirtual 102, 3) := by decide +kernel
theorem dX9_setCount_9 : decode cX9_setCount 9 = .ok (.ifCond .ne 5, 3) := by decide +kernel
theorem dX9_setCount_12 : decode cX9_setCount 12 = .ok (.iconst (-1), 1) := by decide +kernel
theorem dX9_setCount_13 : decode cX9_setCount 13 = .ok (.ireturn, 1) := by decide +kernel
theorem dX9_setCount_14 : decode cX9_setCount 14 = .ok (.iload_n 3, 1) := by decide +kernel
theorem dX9_setCount_15 : decode cX9_setCount 15 = .ok (.ifCond .lt 9, 3) := by decide +kernel
theorem dX9_setCount_18 : decode cX9_setCount 18 = .ok (.iload_n 3, 1) := by decide +kernel
theorem dX9_setCount_19 : decode cX9_setCount 19 = .ok (.bipush 99, 2) := by decide +kernel
theorem dX9_setCount_21 : decode cX9_setCount 21 = .ok (.if_icmp .le 6, 3) := by decide +kernel
theorem dX9_setCount_24 : decode cX9_setCount 24 = .ok (.bipush (-2), 2) := by decide +kernel
theorem dX9_setCount_26 : decode cX9_setCount 26 = .ok (.ireturn, 1) := by decide +kernel
theorem dX9_setCount_27 : decode cX9_setCount 27 = .ok (.aload_n 0, 1) := by decide +kernel
theorem dX9_setCount_28 : decode cX9_setCount 28 = .ok (.getfield 39, 3) := by decide +kernel
theorem dX9_setCount_31 : decode cX9_setCount 31 = .ok (.aload_n 0, 1) := by decide +kernel
theorem dX9_setCount_32 : decode cX9_setCount 32 = .ok (.getfield 21, 3) := by decide +kernel
theorem dX9_setCount_35 : decode cX9_setCount 35 = .ok (.invokevirtual 164, 3) := by decide +kernel
theorem dX9_setCount_38 : decode cX9_setCount 38 = .ok (.aload_n 0, 1) := by decide +kernel
theorem dX9_setCount_39 : decode cX9_setCount 39 = .ok (.getfield 21, 3) := by decide +kernel
theorem dX9_setCount_42 : decode cX9_setCount 42 = .ok (.iload_n 1, 1) := by decide +kernel
theorem dX9_setCount_43 : decode cX9_setCount 43 = .ok (.iload_n 2, 1) := by decide +kernel
theorem dX9_setCount_44 : decode cX9_setCount 44 = .ok (.invokevirtual 110, 3) := by decide +kernel
theorem dX9_setCount_47 : decode cX9_setCount 47 = .ok (.istore 4, 2) := by decide +kernel
theorem dX9_setCount_49 : decode cX9_setCount 49 = .ok (.aload_n 0, 1) := by decide +kernel
theorem dX9_setCount_50 : decode cX9_setCount 50 = .ok (.getfield 21, 3) := by decide +kernel
theorem dX9_setCount_53 : decode cX9_setCount 53 = .ok (.iload_n 1, 1) := by decide +kernel
theorem dX9_setCount_54 : decode cX9_setCount 54 = .ok (.iload_n 2, 1) := by decide +kernel
theorem dX9_setCount_55 : decode cX9_setCount 55 = .ok (.iload_n 3, 1) := by decide +kernel
theorem dX9_setCount_56 : decode cX9_setCount 56 = .ok (.invokevirtual 190, 3) := by decide +kernel
theorem dX9_setCount_59 : decode cX9_setCount 59 = .ok (.iload 4, 2) := by decide +kernel
theorem dX9_setCount_61 : decode cX9_setCount 61 = .ok (.ireturn, 1) := by decide +kernel
theorem dX9_setAlignment_0 : decode cX9_setAlignment 0 = .ok (.iload_n 1, 1) := by decide +kernel
theorem dX9_setAlignment_1 : decode cX9_setAlignment 1 = .ok (.iconst 1, 1) := by decide +kernel
theorem dX9_setAlignment_2 : decode cX9_setAlignment 2 = .ok (.if_icmp .lt 17, 3) := by decide +kernel
theorem dX9_setAlignment_5 : decode cX9_setAlignment 5 = .ok (.iload_n 1, 1) := by decide +kernel
theorem dX9_setAlignment_6 : decode cX9_setAlignment 6 = .ok (.bipush 16, 2) := by decide +kernel
theorem dX9_setAlignment_8 : decode cX9_setAlignment 8 = .ok (.if_icmp .gt 11, 3) := by decide +kernel
theorem dX9_setAlignment_11 : decode cX9_setAlignment 11 = .ok (.iload_n 1, 1) := by decide +kernel
theorem dX9_setAlignment_12 : decode cX9_setAlignment 12 = .ok (.invokestatic 194, 3) := by decide +kernel
theorem dX9_setAlignment_15 : decode cX9_setAlignment 15 = .ok (.iconst 1, 1) := by decide +kernel
theorem dX9_setAlignment_16 : decode cX9_setAlignment 16 = .ok (.if_icmp .eq 6, 3) := by decide +kernel
theorem dX9_setAlignment_19 : decode cX9_setAlignment 19 = .ok (.bipush (-2), 2) := by decide +kernel
theorem dX9_setAlignment_21 : decode cX9_setAlignment 21 = .ok (.ireturn, 1) := by decide +kernel
theorem dX9_setAlignment_22 : decode cX9_setAlignment 22 = .ok (.aload_n 0, 1) := by decide +kernel
theorem dX9_setAlignment_23 : decode cX9_setAlignment 23 = .ok (.getfield 39, 3) := by decide +kernel
theorem dX9_setAlignment_26 : decode cX9_setAlignment 26 = .ok (.aload_n 0, 1) := by decide +kernel
theorem dX9_setAlignment_27 : decode cX9_setAlignment 27 = .ok (.getfield 21, 3) := by decide +kernel
theorem dX9_setAlignment_30 : decode cX9_setAlignment 30 = .ok (.invokevirtual 164, 3) := by decide +kernel
theorem dX9_setAlignment_33 : decode cX9_setAlignment 33 = .ok (.aload_n 0, 1) := by decide +kernel
theorem dX9_setAlignment_34 : decode cX9_setAlignment 34 = .ok (.getfield 21, 3) := by decide +kernel
theorem dX9_setAlignment_37 : decode cX9_setAlignment 37 = .ok (.getfield 199, 3) := by decide +kernel
theorem dX9_setAlignment_40 : decode cX9_setAlignment 40 = .ok (.istore_n 2, 1) := by decide +kernel
theorem dX9_setAlignment_41 : decode cX9_setAlignment 41 = .ok (.aload_n 0, 1) := by decide +kernel
theorem dX9_setAlignment_42 : decode cX9_setAlignment 42 = .ok (.getfield 21, 3) := by decide +kernel
theorem dX9_setAlignment_45 : decode cX9_setAlignment 45 = .ok (.iload_n 1, 1) := by decide +kernel
theorem dX9_setAlignment_46 : decode cX9_setAlignment 46 = .ok (.putfield 199, 3) := by decide +kernel
theorem dX9_setAlignment_49 : decode cX9_setAlignment 49 = .ok (.iload_n 2, 1) := by decide +kernel
theorem dX9_setAlignment_50 : decode cX9_setAlignment 50 = .ok (.ireturn, 1) := by decide +kernel
theorem dX9_undo_0 : decode cX9_undo 0 = .ok (.aload_n 0, 1) := by decide +kernel
theorem dX9_undo_1 : decode cX9_undo 1 = .ok (.getfield 39, 3) := by decide +kernel
theorem dX9_undo_4 : decode cX9_undo 4 = .ok (.aload_n 0, 1) := by decide +kernel
theorem dX9_undo_5 : decode cX9_undo 5 = .ok (.getfield 21, 3) := by decide +kernel
theorem dX9_undo_8 : decode cX9_undo 8 = .ok (.invokevirtual 202, 3) := by decide +kernel
theorem dX9_undo_11 : decode cX9_undo 11 = .ok (.ireturn, 1) := by decide +kernel
theorem dX9_runScript_0 : decode cX9_runScript 0 = .ok (.iload_n 1, 1) := by decide +kernel
theorem dX9_runScript_1 : decode cX9_runScript 1 = .ok (.lload_n 2, 1) := by decide +kernel
theorem dX9_runScript_2 : decode cX9_runScript 2 = .ok (.invokestatic 205, 3) := by decide +kernel
theorem dX9_runScript_5 : decode cX9_runScript 5 = .ok (.ifCond .ne 6, 3) := by decide +kernel
theorem dX9_runScript_8 : decode cX9_runScript 8 = .ok (.bipush (-2), 2) := by decide +kernel
theorem dX9_runScript_10 : decode cX9_runScript 10 = .ok (.ireturn, 1) := by decide +kernel
theorem dX9_runScript_11 : decode cX9_runScript 11 = .ok (.aload_n 0, 1) := by decide +kernel
theorem dX9_runScript_12 : decode cX9_runScript 12 = .ok (.getfield 25, 3) := by decide +kernel
theorem dX9_runScript_15 : decode cX9_runScript 15 = .ok (.aload_n 0, 1) := by decide +kernel
theorem dX9_runScript_16 : decode cX9_runScript 16 = .ok (.getfield 21, 3) := by decide +kernel
theorem dX9_runScript_19 : decode cX9_runScript 19 = .ok (.invokevirtual 84, 3) := by decide +kernel
theorem dX9_runScript_22 : decode cX9_runScript 22 = .ok (.aload_n 0, 1) := by decide +kernel
theorem dX9_runScript_23 : decode cX9_runScript 23 = .ok (.getfield 25, 3) := by decide +kernel
theorem dX9_runScript_26 : decode cX9_runScript 26 = .ok (.iload_n 1, 1) := by decide +kernel
theorem dX9_runScript_27 : decode cX9_runScript 27 = .ok (.lload_n 2, 1) := by decide +kernel
theorem dX9_runScript_28 : decode cX9_runScript 28 = .ok (.invokestatic 211, 3) := by decide +kernel
theorem dX9_runScript_31 : decode cX9_runScript 31 = .ok (.ireturn, 1) := by decide +kernel
theorem dX9_execute_0 : decode cX9_execute 0 = .ok (.iload_n 3, 1) := by decide +kernel
theorem dX9_execute_1 : decode cX9_execute 1 = .ok (.iconst 1, 1) := by decide +kernel
theorem dX9_execute_2 : decode cX9_execute 2 = .ok (.if_icmp .lt 9, 3) := by decide +kernel
theorem dX9_execute_5 : decode cX9_execute 5 = .ok (.iload_n 3, 1) := by decide +kernel
theorem dX9_execute_6 : decode cX9_execute 6 = .ok (.bipush 99, 2) := by decide +kernel
theorem dX9_execute_8 : decode cX9_execute 8 = .ok (.if_icmp .le 6, 3) := by decide +kernel
theorem dX9_execute_11 : decode cX9_execute 11 = .ok (.bipush (-2), 2) := by decide +kernel
theorem dX9_execute_13 : decode cX9_execute 13 = .ok (.ireturn, 1) := by decide +kernel
theorem dX9_execute_14 : decode cX9_execute 14 = .ok (.aload_n 0, 1) := by decide +kernel
theorem dX9_execute_15 : decode cX9_execute 15 = .ok (.getfield 21, 3) := by decide +kernel
theorem dX9_execute_18 : decode cX9_execute 18 = .ok (.lload_n 1, 1) := by decide +kernel
theorem dX9_execute_19 : decode cX9_execute 19 = .ok (.iload_n 3, 1) := by decide +kernel
theorem dX9_execute_20 : decode cX9_execute 20 = .ok (.invokestatic 215, 3) := by decide +kernel
theorem dX9_execute_23 : decode cX9_execute 23 = .ok (.ireturn, 1) := by decide +kernel
theorem dX9_save_0 : decode cX9_save 0 = .ok (.iload_n 1, 1) := by decide +kernel
theorem dX9_save_1 : decode cX9_save 1 = .ok (.ifCond .lt 8, 3) := by decide +kernel
theorem dX9_save_4 : decode cX9_save 4 = .ok (.iload_n 1, 1) := by decide +kernel
theorem dX9_save_5 : decode cX9_save 5 = .ok (.iconst 2, 1) := by decide +kernel
theorem dX9_save_6 : decode cX9_save 6 = .ok (.if_icmp .lt 5, 3) := by decide +kernel
theorem dX9_save_9 : decode cX9_save 9 = .ok (.iconst (-1), 1) := by decide +kernel
theorem dX9_save_10 : decode cX9_save 10 = .ok (.ireturn, 1) := by decide +kernel
theorem dX9_save_11 : decode cX9_save 11 = .ok (.aload_n 0, 1) := by decide +kernel
theorem dX9_save_12 : decode cX9_save 12 = .ok (.getfield 28, 3) := by decide +kernel
theorem dX9_save_15 : decode cX9_save 15 = .ok (.iload_n 1, 1) := by decide +kernel
theorem dX9_save_16 : decode cX9_save 16 = .ok (.aaload, 1) := by decide +kernel
theorem dX9_save_17 : decode cX9_save 17 = .ok (.aload_n 0, 1) := by decide +kernel
theorem dX9_save_18 : decode cX9_save 18 = .ok (.getfield 21, 3) := by decide +kernel
theorem dX9_save_21 : decode cX9_save 21 = .ok (.invokevirtual 84, 3) := by decide +kernel
theorem dX9_save_24 : decode cX9_save 24 = .ok (.aload_n 0, 1) := by decide +kernel
theorem dX9_save_25 : decode cX9_save 25 = .ok (.getfield 32, 3) := by decide +kernel
theorem dX9_save_28 : decode cX9_save 28 = .ok (.iload_n 1, 1) := by decide +kernel
theorem dX9_save_29 : decode cX9_save 29 = .ok (.iconst 1, 1) := by decide +kernel
theorem dX9_save_30 : decode cX9_save 30 = .ok (.bastore, 1) := by decide +kernel
theorem dX9_save_31 : decode cX9_save 31 = .ok (.aload_n 0, 1) := by decide +kernel
theorem dX9_save_32 : decode cX9_save 32 = .ok (.getfield 21, 3) := by decide +kernel
theorem dX9_save_35 : decode cX9_save 35 = .ok (.getfield 122, 3) := by decide +kernel
theorem dX9_save_38 : decode cX9_save 38 = .ok (.ireturn, 1) := by decide +kernel
theorem dX9_restore_0 : decode cX9_restore 0 = .ok (.iload_n 1, 1) := by decide +kernel
theorem dX9_restore_1 : decode cX9_restore 1 = .ok (.ifCond .lt 8, 3) := by decide +kernel
theorem dX9_restore_4 : decode cX9_restore 4 = .ok (.iload_n 1, 1) := by decide +kernel
theorem dX9_restore_5 : decode cX9_restore 5 = .ok (.iconst 2, 1) := by decide +kernel
theorem dX9_restore_6 : decode cX9_restore 6 = .ok (.if_icmp .lt 5, 3) := by decide +kernel
theorem dX9_restore_9 : decode cX9_restore 9 = .ok (.iconst (-1), 1) := by decide +kernel
theorem dX9_restore_10 : decode cX9_restore 10 = .ok (.ireturn, 1) := by decide +kernel
theorem dX9_restore_11 : decode cX9_restore 11 = .ok (.aload_n 0, 1) := by decide +kernel
theorem dX9_restore_12 : decode cX9_restore 12 = .ok (.getfield 32, 3) := by decide +kernel
theorem dX9_restore_15 : decode cX9_restore 15 = .ok (.iload_n 1, 1) := by decide +kernel
theorem dX9_restore_16 : decode cX9_restore 16 = .ok (.baload, 1) := by decide +kernel
theorem dX9_restore_17 : decode cX9_restore 17 = .ok (.ifCond .ne 6, 3) := by decide +kernel
theorem dX9_restore_20 : decode cX9_restore 20 = .ok (.bipush (-3), 2) := by decide +kernel
theorem dX9_restore_22 : decode cX9_restore 22 = .ok (.ireturn, 1) := by decide +kernel
theorem dX9_restore_23 : decode cX9_restore 23 = .ok (.aload_n 0, 1) := by decide +kernel
theorem dX9_restore_24 : decode cX9_restore 24 = .ok (.getfield 21, 3) := by decide +kernel
theorem dX9_restore_27 : decode cX9_restore 27 = .ok (.aload_n 0, 1) := by decide +kernel
theorem dX9_restore_28 : decode cX9_restore 28 = .ok (.getfield 28, 3) := by decide +kernel
theorem dX9_restore_31 : decode cX9_restore 31 = .ok (.iload_n 1, 1) := by decide +kernel
theorem dX9_restore_32 : decode cX9_restore 32 = .ok (.aaload, 1) := by decide +kernel
theorem dX9_restore_33 : decode cX9_restore 33 = .ok (.invokevirtual 84, 3) := by decide +kernel
theorem dX9_restore_36 : decode cX9_restore 36 = .ok (.aload_n 0, 1) := by decide +kernel
theorem dX9_restore_37 : decode cX9_restore 37 = .ok (.getfield 39, 3) := by decide +kernel
theorem dX9_restore_40 : decode cX9_restore 40 = .ok (.invokevirtual 87, 3) := by decide +kernel
theorem dX9_restore_43 : decode cX9_restore 43 = .ok (.aload_n 0, 1) := by decide +kernel
theorem dX9_restore_44 : decode cX9_restore 44 = .ok (.getfield 21, 3) := by decide +kernel
theorem dX9_restore_47 : decode cX9_restore 47 = .ok (.getfield 122, 3) := by decide +kernel
theorem dX9_restore_50 : decode cX9_restore 50 = .ok (.ireturn, 1) := by decide +kernel
