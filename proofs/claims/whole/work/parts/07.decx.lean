theorem dX0_init_0 : decode cX0_init 0 = .ok (.aload_n 0, 1) := by decide +kernel
theorem dX0_init_1 : decode cX0_init 1 = .ok (.invokespecial 1, 3) := by decide +kernel
theorem dX0_init_4 : decode cX0_init 4 = .ok (.aload_n 0, 1) := by decide +kernel
theorem dX0_init_5 : decode cX0_init 5 = .ok (.iconst 0, 1) := by decide +kernel
theorem dX0_init_6 : decode cX0_init 6 = .ok (.putfield 7, 3) := by decide +kernel
theorem dX0_init_9 : decode cX0_init 9 = .ok (.aload_n 0, 1) := by decide +kernel
theorem dX0_init_10 : decode cX0_init 10 = .ok (.bipush 14, 2) := by decide +kernel
theorem dX0_init_12 : decode cX0_init 12 = .ok (.newarray .int, 2) := by decide +kernel
theorem dX0_init_14 : decode cX0_init 14 = .ok (.putfield 13, 3) := by decide +kernel
theorem dX0_init_17 : decode cX0_init 17 = .ok (.aload_n 0, 1) := by decide +kernel
theorem dX0_init_18 : decode cX0_init 18 = .ok (.bipush 14, 2) := by decide +kernel
theorem dX0_init_20 : decode cX0_init 20 = .ok (.newarray .boolean, 2) := by decide +kernel
theorem dX0_init_22 : decode cX0_init 22 = .ok (.putfield 17, 3) := by decide +kernel
theorem dX0_init_25 : decode cX0_init 25 = .ok (.aload_n 0, 1) := by decide +kernel
theorem dX0_init_26 : decode cX0_init 26 = .ok (.sipush 840, 3) := by decide +kernel
theorem dX0_init_29 : decode cX0_init 29 = .ok (.newarray .int, 2) := by decide +kernel
theorem dX0_init_31 : decode cX0_init 31 = .ok (.putfield 21, 3) := by decide +kernel
theorem dX0_init_34 : decode cX0_init 34 = .ok (.aload_n 0, 1) := by decide +kernel
theorem dX0_init_35 : decode cX0_init 35 = .ok (.iconst 0, 1) := by decide +kernel
theorem dX0_init_36 : decode cX0_init 36 = .ok (.putfield 24, 3) := by decide +kernel
theorem dX0_init_39 : decode cX0_init 39 = .ok (.aload_n 0, 1) := by decide +kernel
theorem dX0_init_40 : decode cX0_init 40 = .ok (.bipush 8, 2) := by decide +kernel
theorem dX0_init_42 : decode cX0_init 42 = .ok (.newarray .int, 2) := by decide +kernel
theorem dX0_init_44 : decode cX0_init 44 = .ok (.putfield 27, 3) := by decide +kernel
theorem dX0_init_47 : decode cX0_init 47 = .ok (.aload_n 0, 1) := by decide +kernel
theorem dX0_init_48 : decode cX0_init 48 = .ok (.bipush 8, 2) := by decide +kernel
theorem dX0_init_50 : decode cX0_init 50 = .ok (.newarray .int, 2) := by decide +kernel
theorem dX0_init_52 : decode cX0_init 52 = .ok (.putfield 30, 3) := by decide +kernel
theorem dX0_init_55 : decode cX0_init 55 = .ok (.aload_n 0, 1) := by decide +kernel
theorem dX0_init_56 : decode cX0_init 56 = .ok (.bipush 112, 2) := by decide +kernel
theorem dX0_init_58 : decode cX0_init 58 = .ok (.newarray .int, 2) := by decide +kernel
theorem dX0_init_60 : decode cX0_init 60 = .ok (.putfield 33, 3) := by decide +kernel
theorem dX0_init_63 : decode cX0_init 63 = .ok (.aload_n 0, 1) := by decide +kernel
theorem dX0_init_64 : decode cX0_init 64 = .ok (.bipush 14, 2) := by decide +kernel
theorem dX0_init_66 : decode cX0_init 66 = .ok (.newarray .int, 2) := by decide +kernel
theorem dX0_init_68 : decode cX0_init 68 = .ok (.putfield 36, 3) := by decide +kernel
theorem dX0_init_71 : decode cX0_init 71 = .ok (.aload_n 0, 1) := by decide +kernel
theorem dX0_init_72 : decode cX0_init 72 = .ok (.bipush 14, 2) := by decide +kernel
theorem dX0_init_74 : decode cX0_init 74 = .ok (.newarray .int, 2) := by decide +kernel
theorem dX0_init_76 : decode cX0_init 76 = .ok (.putfield 39, 3) := by decide +kernel
theorem dX0_init_79 : decode cX0_init 79 = .ok (.aload_n 0, 1) := by decide +kernel
theorem dX0_init_80 : decode cX0_init 80 = .ok (.bipush 60, 2) := by decide +kernel
theorem dX0_init_82 : decode cX0_init 82 = .ok (.newarray .int, 2) := by decide +kernel
theorem dX0_init_84 : decode cX0_init 84 = .ok (.putfield 42, 3) := by decide +kernel
theorem dX0_init_87 : decode cX0_init 87 = .ok (.aload_n 0, 1) := by decide +kernel
theorem dX0_init_88 : decode cX0_init 88 = .ok (.iconst 4, 1) := by decide +kernel
theorem dX0_init_89 : decode cX0_init 89 = .ok (.newarray .int, 2) := by decide +kernel
theorem dX0_init_91 : decode cX0_init 91 = .ok (.putfield 45, 3) := by decide +kernel
theorem dX0_init_94 : decode cX0_init 94 = .ok (.aload_n 0, 1) := by decide +kernel
theorem dX0_init_95 : decode cX0_init 95 = .ok (.bipush 14, 2) := by decide +kernel
theorem dX0_init_97 : decode cX0_init 97 = .ok (.newarray .int, 2) := by decide +kernel
theorem dX0_init_99 : decode cX0_init 99 = .ok (.putfield 48, 3) := by decide +kernel
theorem dX0_init_102 : decode cX0_init 102 = .ok (.aload_n 0, 1) := by decide +kernel
theorem dX0_init_103 : decode cX0_init 103 = .ok (.getfield 21, 3) := by decide +kernel
theorem dX0_init_106 : decode cX0_init 106 = .ok (.iconst (-1), 1) := by decide +kernel
theorem dX0_init_107 : decode cX0_init 107 = .ok (.invokestatic 51, 3) := by decide +kernel
theorem dX0_init_110 : decode cX0_init 110 = .ok (.aload_n 0, 1) := by decide +kernel
theorem dX0_init_111 : decode cX0_init 111 = .ok (.getfield 33, 3) := by decide +kernel
theorem dX0_init_114 : decode cX0_init 114 = .ok (.iconst (-1), 1) := by decide +kernel
theorem dX0_init_115 : decode cX0_init 115 = .ok (.invokestatic 51, 3) := by decide +kernel
theorem dX0_init_118 : decode cX0_init 118 = .ok (.aload_n 0, 1) := by decide +kernel
theorem dX0_init_119 : decode cX0_init 119 = .ok (.getfield 36, 3) := by decide +kernel
theorem dX0_init_122 : decode cX0_init 122 = .ok (.iconst (-1), 1) := by decide +kernel
theorem dX0_init_123 : decode cX0_init 123 = .ok (.invokestatic 51, 3) := by decide +kernel
theorem dX0_init_126 : decode cX0_init 126 = .ok (.return_, 1) := by decide +kernel
theorem dX0_count_0 : decode cX0_count 0 = .ok (.iload_n 1, 1) := by decide +kernel
theorem dX0_count_1 : decode cX0_count 1 = .ok (.tableswitch 60 0 4 #[35, 40, 45, 50, 55], 35) := by decide +kernel
theorem dX0_count_36 : decode cX0_count 36 = .ok (.aload_n 0, 1) := by decide +kernel
theorem dX0_count_37 : decode cX0_count 37 = .ok (.getfield 7, 3) := by decide +kernel
theorem dX0_count_40 : decode cX0_count 40 = .ok (.ireturn, 1) := by decide +kernel
theorem dX0_count_41 : decode cX0_count 41 = .ok (.aload_n 0, 1) := by decide +kernel
theorem dX0_count_42 : decode cX0_count 42 = .ok (.invokevirtual 113, 3) := by decide +kernel
theorem dX0_count_45 : decode cX0_count 45 = .ok (.ireturn, 1) := by decide +kernel
theorem dX0_count_46 : decode cX0_count 46 = .ok (.aload_n 0, 1) := by decide +kernel
theorem dX0_count_47 : decode cX0_count 47 = .ok (.invokevirtual 117, 3) := by decide +kernel
theorem dX0_count_50 : decode cX0_count 50 = .ok (.ireturn, 1) := by decide +kernel
theorem dX0_count_51 : decode cX0_count 51 = .ok (.aload_n 0, 1) := by decide +kernel
theorem dX0_count_52 : decode cX0_count 52 = .ok (.getfield 24, 3) := by decide +kernel
theorem dX0_count_55 : decode cX0_count 55 = .ok (.ireturn, 1) := by decide +kernel
theorem dX0_count_56 : decode cX0_count 56 = .ok (.aload_n 0, 1) := by decide +kernel
theorem dX0_count_57 : decode cX0_count 57 = .ok (.invokevirtual 120, 3) := by decide +kernel
theorem dX0_count_60 : decode cX0_count 60 = .ok (.ireturn, 1) := by decide +kernel
theorem dX0_count_61 : decode cX0_count 61 = .ok (.iconst (-1), 1) := by decide +kernel
theorem dX0_count_62 : decode cX0_count 62 = .ok (.ireturn, 1) := by decide +kernel
theorem dX0_countSamples_0 : decode cX0_countSamples 0 = .ok (.iconst 0, 1) := by decide +kernel
theorem dX0_countSamples_1 : decode cX0_countSamples 1 = .ok (.istore_n 1, 1) := by decide +kernel
theorem dX0_countSamples_2 : decode cX0_countSamples 2 = .ok (.iconst 0, 1) := by decide +kernel
theorem dX0_countSamples_3 : decode cX0_countSamples 3 = .ok (.istore_n 2, 1) := by decide +kernel
theorem dX0_countSamples_4 : decode cX0_countSamples 4 = .ok (.iload_n 2, 1) := by decide +kernel
theorem dX0_countSamples_5 : decode cX0_countSamples 5 = .ok (.aload_n 0, 1) := by decide +kernel
theorem dX0_countSamples_6 : decode cX0_countSamples 6 = .ok (.getfield 7, 3) := by decide +kernel
theorem dX0_countSamples_9 : decode cX0_countSamples 9 = .ok (.if_icmp .ge 21, 3) := by decide +kernel
theorem dX0_countSamples_12 : decode cX0_countSamples 12 = .ok (.aload_n 0, 1) := by decide +kernel
theorem dX0_countSamples_13 : decode cX0_countSamples 13 = .ok (.getfield 17, 3) := by decide +kernel
theorem dX0_countSamples_16 : decode cX0_countSamples 16 = .ok (.iload_n 2, 1) := by decide +kernel
theorem dX0_countSamples_17 : decode cX0_countSamples 17 = .ok (.baload, 1) := by decide +kernel
theorem dX0_countSamples_18 : decode cX0_countSamples 18 = .ok (.ifCond .eq 6, 3) := by decide +kernel
theorem dX0_countSamples_21 : decode cX0_countSamples 21 = .ok (.iinc 1 1, 3) := by decide +kernel
theorem dX0_countSamples_24 : decode cX0_countSamples 24 = .ok (.iinc 2 1, 3) := by decide +kernel
theorem dX0_countSamples_27 : decode cX0_countSamples 27 = .ok (.goto (-23), 3) := by decide +kernel
theorem dX0_countSamples_30 : decode cX0_countSamples 30 = .ok (.iload_n 1, 1) := by decide +kernel
theorem dX0_countSamples_31 : decode cX0_countSamples 31 = .ok (.ireturn, 1) := by decide +kernel
theorem dX0_countEdges_0 : decode cX0_countEdges 0 = .ok (.iconst 0, 1) := by decide +kernel
theorem dX0_countEdges_1 : decode cX0_countEdges 1 = .ok (.istore_n 1, 1) := by decide +kernel
theorem dX0_countEdges_2 : decode cX0_countEdges 2 = .ok (.iconst 0, 1) := by decide +kernel
theorem dX0_countEdges_3 : decode cX0_countEdges 3 = .ok (.istore_n 2, 1) := by decide +kernel
theorem dX0_countEdges_4 : decode cX0_countEdges 4 = .ok (.iload_n 2, 1) := by decide +kernel
theorem dX0_countEdges_5 : decode cX0_countEdges 5 = .ok (.bipush 60, 2) := by decide +kernel
theorem dX0_countEdges_7 : decode cX0_countEdges 7 = .ok (.if_icmp .ge 37, 3) := by decide +kernel
theorem dX0_countEdges_10 : decode cX0_countEdges 10 = .ok (.iconst 0, 1) := by decide +kernel
theorem dX0_countEdges_11 : decode cX0_countEdges 11 = .ok (.istore_n 3, 1) := by decide +kernel
theorem dX0_countEdges_12 : decode cX0_countEdges 12 = .ok (.iload_n 3, 1) := by decide +kernel
theorem dX0_countEdges_13 : decode cX0_countEdges 13 = .ok (.aload_n 0, 1) := by decide +kernel
theorem dX0_countEdges_14 : decode cX0_countEdges 14 = .ok (.getfield 7, 3) := by decide +kernel
theorem dX0_countEdges_17 : decode cX0_countEdges 17 = .ok (.if_icmp .ge 21, 3) := by decide +kernel
theorem dX0_countEdges_20 : decode cX0_countEdges 20 = .ok (.aload_n 0, 1) := by decide +kernel
theorem dX0_countEdges_21 : decode cX0_countEdges 21 = .ok (.iload_n 2, 1) := by decide +kernel
theorem dX0_countEdges_22 : decode cX0_countEdges 22 = .ok (.iload_n 3, 1) := by decide +kernel
theorem dX0_countEdges_23 : decode cX0_countEdges 23 = .ok (.invokevirtual 174, 3) := by decide +kernel
theorem dX0_countEdges_26 : decode cX0_countEdges 26 = .ok (.ifCond .eq 6, 3) := by decide +kernel
theorem dX0_countEdges_29 : decode cX0_countEdges 29 = .ok (.iinc 1 1, 3) := by decide +kernel
theorem dX0_countEdges_32 : decode cX0_countEdges 32 = .ok (.iinc 3 1, 3) := by decide +kernel
theorem dX0_countEdges_35 : decode cX0_countEdges 35 = .ok (.goto (-23), 3) := by decide +kernel
theorem dX0_countEdges_38 : decode cX0_countEdges 38 = .ok (.iinc 2 1, 3) := by decide +kernel
theorem dX0_countEdges_41 : decode cX0_countEdges 41 = .ok (.goto (-37), 3) := by decide +kernel
theorem dX0_countEdges_44 : decode cX0_countEdges 44 = .ok (.iload_n 1, 1) := by decide +kernel
theorem dX0_countEdges_45 : decode cX0_countEdges 45 = .ok (.ireturn, 1) := by decide +kernel
theorem dX0_startsEdge_0 : decode cX0_startsEdge 0 = .ok (.aload_n 0, 1) := by decide +kernel
theorem dX0_startsEdge_1 : decode cX0_startsEdge 1 = .ok (.iload_n 1, 1) := by decide +kernel
theorem dX0_startsEdge_2 : decode cX0_startsEdge 2 = .ok (.iload_n 2, 1) := by decide +kernel
theorem dX0_startsEdge_3 : decode cX0_startsEdge 3 = .ok (.invokevirtual 135, 3) := by decide +kernel
theorem dX0_startsEdge_6 : decode cX0_startsEdge 6 = .ok (.istore_n 3, 1) := by decide +kernel
theorem dX0_startsEdge_7 : decode cX0_startsEdge 7 = .ok (.iload_n 3, 1) := by decide +kernel
theorem dX0_startsEdge_8 : decode cX0_startsEdge 8 = .ok (.iconst (-1), 1) := by decide +kernel
theorem dX0_startsEdge_9 : decode cX0_startsEdge 9 = .ok (.if_icmp .eq 23, 3) := by decide +kernel
theorem dX0_startsEdge_12 : decode cX0_startsEdge 12 = .ok (.iload_n 1, 1) := by decide +kernel
theorem dX0_startsEdge_13 : decode cX0_startsEdge 13 = .ok (.ifCond .eq 15, 3) := by decide +kernel
theorem dX0_startsEdge_16 : decode cX0_startsEdge 16 = .ok (.aload_n 0, 1) := by decide +kernel
theorem dX0_startsEdge_17 : decode cX0_startsEdge 17 = .ok (.iload_n 1, 1) := by decide +kernel
theorem dX0_startsEdge_18 : decode cX0_startsEdge 18 = .ok (.iconst 1, 1) := by decide +kernel
theorem dX0_startsEdge_19 : decode cX0_startsEdge 19 = .ok (.isub, 1) := by decide +kernel
theorem dX0_startsEdge_20 : decode cX0_startsEdge 20 = .ok (.iload_n 2, 1) := by decide +kernel
theorem dX0_startsEdge_21 : decode cX0_startsEdge 21 = .ok (.invokevirtual 135, 3) := by decide +kernel
theorem dX0_startsEdge_24 : decode cX0_startsEdge 24 = .ok (.iload_n 3, 1) := by decide +kernel
theorem dX0_startsEdge_25 : decode cX0_startsEdge 25 = .ok (.if_icmp .eq 7, 3) := by decide +kernel
theorem dX0_startsEdge_28 : decode cX0_startsEdge 28 = .ok (.iconst 1, 1) := by decide +kernel
theorem dX0_startsEdge_29 : decode cX0_startsEdge 29 = .ok (.goto 4, 3) := by decide +kernel
theorem dX0_startsEdge_32 : decode cX0_startsEdge 32 = .ok (.iconst 0, 1) := by decide +kernel
theorem dX0_startsEdge_33 : decode cX0_startsEdge 33 = .ok (.ireturn, 1) := by decide +kernel
theorem dX0_parentAt_0 : decode cX0_parentAt 0 = .ok (.aload_n 0, 1) := by decide +kernel
theorem dX0_parentAt_1 : decode cX0_parentAt 1 = .ok (.getfield 21, 3) := by decide +kernel
theorem dX0_parentAt_4 : decode cX0_parentAt 4 = .ok (.iload_n 1, 1) := by decide +kernel
theorem dX0_parentAt_5 : decode cX0_parentAt 5 = .ok (.bipush 14, 2) := by decide +kernel
theorem dX0_parentAt_7 : decode cX0_parentAt 7 = .ok (.imul, 1) := by decide +kernel
theorem dX0_parentAt_8 : decode cX0_parentAt 8 = .ok (.iload_n 2, 1) := by decide +kernel
theorem dX0_parentAt_9 : decode cX0_parentAt 9 = .ok (.iadd, 1) := by decide +kernel
theorem dX0_parentAt_10 : decode cX0_parentAt 10 = .ok (.iaload, 1) := by decide +kernel
theorem dX0_parentAt_11 : decode cX0_parentAt 11 = .ok (.ireturn, 1) := by decide +kernel
theorem dX0_countMutations_0 : decode cX0_countMutations 0 = .ok (.iconst 0, 1) := by decide +kernel
theorem dX0_countMutations_1 : decode cX0_countMutations 1 = .ok (.istore_n 1, 1) := by decide +kernel
theorem dX0_countMutations_2 : decode cX0_countMutations 2 = .ok (.iconst 0, 1) := by decide +kernel
theorem dX0_countMutations_3 : decode cX0_countMutations 3 = .ok (.istore_n 2, 1) := by decide +kernel
theorem dX0_countMutations_4 : decode cX0_countMutations 4 = .ok (.iload_n 2, 1) := by decide +kernel
theorem dX0_countMutations_5 : decode cX0_countMutations 5 = .ok (.aload_n 0, 1) := by decide +kernel
theorem dX0_countMutations_6 : decode cX0_countMutations 6 = .ok (.getfield 33, 3) := by decide +kernel
theorem dX0_countMutations_9 : decode cX0_countMutations 9 = .ok (.arraylength, 1) := by decide +kernel
theorem dX0_countMutations_10 : decode cX0_countMutations 10 = .ok (.if_icmp .ge 22, 3) := by decide +kernel
theorem dX0_countMutations_13 : decode cX0_countMutations 13 = .ok (.aload_n 0, 1) := by decide +kernel
theorem dX0_countMutations_14 : decode cX0_countMutations 14 = .ok (.getfield 33, 3) := by decide +kernel
theorem dX0_countMutations_17 : decode cX0_countMutations 17 = .ok (.iload_n 2, 1) := by decide +kernel
theorem dX0_countMutations_18 : decode cX0_countMutations 18 = .ok (.iaload, 1) := by decide +kernel
theorem dX0_countMutations_19 : decode cX0_countMutations 19 = .ok (.iconst (-1), 1) := by decide +kernel
theorem dX0_countMutations_20 : decode cX0_countMutations 20 = .ok (.if_icmp .eq 6, 3) := by decide +kernel
theorem dX0_countMutations_23 : decode cX0_countMutations 23 = .ok (.iinc 1 1, 3) := by decide +kernel
theorem dX0_countMutations_26 : decode cX0_countMutations 26 = .ok (.iinc 2 1, 3) := by decide +kernel
theorem dX0_countMutations_29 : decode cX0_countMutations 29 = .ok (.goto (-25), 3) := by decide +kernel
theorem dX0_countMutations_32 : decode cX0_countMutations 32 = .ok (.iload_n 1, 1) := by decide +kernel
theorem dX0_countMutations_33 : decode cX0_countMutations 33 = .ok (.ireturn, 1) := by decide +kernel
theorem dX0_trees_0 : decode cX0_trees 0 = .ok (.iconst 0, 1) := by decide +kernel
theorem dX0_trees_1 : decode cX0_trees 1 = .ok (.istore_n 1, 1) := by decide +kernel
theorem dX0_trees_2 : decode cX0_trees 2 = .ok (.iconst 0, 1) := by decide +kernel
theorem dX0_trees_3 : decode cX0_trees 3 = .ok (.istore_n 2, 1) := by decide +kernel
theorem dX0_trees_4 : decode cX0_trees 4 = .ok (.iload_n 2, 1) := by decide +kernel
theorem dX0_trees_5 : decode cX0_trees 5 = .ok (.bipush 60, 2) := by decide +kernel
theorem dX0_trees_7 : decode cX0_trees 7 = .ok (.if_icmp .ge 20, 3) := by decide +kernel
theorem dX0_trees_10 : decode cX0_trees 10 = .ok (.aload_n 0, 1) := by decide +kernel
theorem dX0_trees_11 : decode cX0_trees 11 = .ok (.iload_n 2, 1) := by decide +kernel
theorem dX0_trees_12 : decode cX0_trees 12 = .ok (.invokevirtual 144, 3) := by decide +kernel
theorem dX0_trees_15 : decode cX0_trees 15 = .ok (.ifCond .eq 6, 3) := by decide +kernel
theorem dX0_trees_18 : decode cX0_trees 18 = .ok (.iinc 1 1, 3) := by decide +kernel
theorem dX0_trees_21 : decode cX0_trees 21 = .ok (.iinc 2 1, 3) := by decide +kernel
theorem dX0_trees_24 : decode cX0_trees 24 = .ok (.goto (-20), 3) := by decide +kernel
theorem dX0_trees_27 : decode cX0_trees 27 = .ok (.iload_n 1, 1) := by decide +kernel
theorem dX0_trees_28 : decode cX0_trees 28 = .ok (.ireturn, 1) := by decide +kernel
theorem dX0_startsRun_0 : decode cX0_startsRun 0 = .ok (.iload_n 1, 1) := by decide +kernel
theorem dX0_startsRun_1 : decode cX0_startsRun 1 = .ok (.ifCond .ne 5, 3) := by decide +kernel
theorem dX0_startsRun_4 : decode cX0_startsRun 4 = .ok (.iconst 1, 1) := by decide +kernel
theorem dX0_startsRun_5 : decode cX0_startsRun 5 = .ok (.ireturn, 1) := by decide +kernel
theorem dX0_startsRun_6 : decode cX0_startsRun 6 = .ok (.iconst 0, 1) := by decide +kernel
theorem dX0_startsRun_7 : decode cX0_startsRun 7 = .ok (.istore_n 2, 1) := by decide +kernel
theorem dX0_startsRun_8 : decode cX0_startsRun 8 = .ok (.iload_n 2, 1) := by decide +kernel
theorem dX0_startsRun_9 : decode cX0_startsRun 9 = .ok (.aload_n 0, 1) := by decide +kernel
theorem dX0_startsRun_10 : decode cX0_startsRun 10 = .ok (.getfield 7, 3) := by decide +kernel
theorem dX0_startsRun_13 : decode cX0_startsRun 13 = .ok (.if_icmp .ge 28, 3) := by decide +kernel
theorem dX0_startsRun_16 : decode cX0_startsRun 16 = .ok (.aload_n 0, 1) := by decide +kernel
theorem dX0_startsRun_17 : decode cX0_startsRun 17 = .ok (.iload_n 1, 1) := by decide +kernel
theorem dX0_startsRun_18 : decode cX0_startsRun 18 = .ok (.iload_n 2, 1) := by decide +kernel
theorem dX0_startsRun_19 : decode cX0_startsRun 19 = .ok (.invokevirtual 135, 3) := by decide +kernel
theorem dX0_startsRun_22 : decode cX0_startsRun 22 = .ok (.aload_n 0, 1) := by decide +kernel
theorem dX0_startsRun_23 : decode cX0_startsRun 23 = .ok (.iload_n 1, 1) := by decide +kernel
theorem dX0_startsRun_24 : decode cX0_startsRun 24 = .ok (.iconst 1, 1) := by decide +kernel
theorem dX0_startsRun_25 : decode cX0_startsRun 25 = .ok (.isub, 1) := by decide +kernel
theorem dX0_startsRun_26 : decode cX0_startsRun 26 = .ok (.iload_n 2, 1) := by decide +kernel
theorem dX0_startsRun_27 : decode cX0_startsRun 27 = .ok (.invokevirtual 135, 3) := by decide +kernel
theorem dX0_startsRun_30 : decode cX0_startsRun 30 = .ok (.if_icmp .eq 5, 3) := by decide +kernel
theorem dX0_startsRun_33 : decode cX0_startsRun 33 = .ok (.iconst 1, 1) := by decide +kernel
theorem dX0_startsRun_34 : decode cX0_startsRun 34 = .ok (.ireturn, 1) := by decide +kernel
theorem dX0_startsRun_35 : decode cX0_startsRun 35 = .ok (.iinc 2 1, 3) := by decide +kernel
theorem dX0_startsRun_38 : decode cX0_startsRun 38 = .ok (.goto (-30), 3) := by decide +kernel
theorem dX0_startsRun_41 : decode cX0_startsRun 41 = .ok (.iconst 0, 1) := by decide +kernel
theorem dX0_startsRun_42 : decode cX0_startsRun 42 = .ok (.ireturn, 1) := by decide +kernel
theorem dX0_differing_0 : decode cX0_differing 0 = .ok (.iconst 0, 1) := by decide +kernel
theorem dX0_differing_1 : decode cX0_differing 1 = .ok (.istore_n 1, 1) := by decide +kernel
theorem dX0_differing_2 : decode cX0_differing 2 = .ok (.iconst 0, 1) := by decide +kernel
theorem dX0_differing_3 : decode cX0_differing 3 = .ok (.istore_n 2, 1) := by decide +kernel
theorem dX0_differing_4 : decode cX0_differing 4 = .ok (.iload_n 2, 1) := by decide +kernel
theorem dX0_differing_5 : decode cX0_differing 5 = .ok (.aload_n 0, 1) := by decide +kernel
theorem dX0_differing_6 : decode cX0_differing 6 = .ok (.getfield 24, 3) := by decide +kernel
theorem dX0_differing_9 : decode cX0_differing 9 = .ok (.if_icmp .ge 53, 3) := by decide +kernel
theorem dX0_differing_12 : decode cX0_differing 12 = .ok (.aload_n 0, 1) := by decide +kernel
theorem dX0_differing_13 : decode cX0_differing 13 = .ok (.iload_n 2, 1) := by decide +kernel
theorem dX0_differing_14 : decode cX0_differing 14 = .ok (.invokevirtual 152, 3) := by decide +kernel
theorem dX0_differing_17 : decode cX0_differing 17 = .ok (.iconst 0, 1) := by decide +kernel
theorem dX0_differing_18 : decode cX0_differing 18 = .ok (.istore_n 3, 1) := by decide +kernel
theorem dX0_differing_19 : decode cX0_differing 19 = .ok (.iconst 0, 1) := by decide +kernel
theorem dX0_differing_20 : decode cX0_differing 20 = .ok (.istore 4, 2) := by decide +kernel
theorem dX0_differing_22 : decode cX0_differing 22 = .ok (.iload 4, 2) := by decide +kernel
theorem dX0_differing_24 : decode cX0_differing 24 = .ok (.iconst 4, 1) := by decide +kernel
theorem dX0_differing_25 : decode cX0_differing 25 = .ok (.if_icmp .ge 31, 3) := by decide +kernel
theorem dX0_differing_28 : decode cX0_differing 28 = .ok (.iload_n 1, 1) := by decide +kernel
theorem dX0_differing_29 : decode cX0_differing 29 = .ok (.iload_n 3, 1) := by decide +kernel
theorem dX0_differing_30 : decode cX0_differing 30 = .ok (.aload_n 0, 1) := by decide +kernel
theorem dX0_differing_31 : decode cX0_differing 31 = .ok (.getfield 45, 3) := by decide +kernel
theorem dX0_differing_34 : decode cX0_differing 34 = .ok (.iload 4, 2) := by decide +kernel
theorem dX0_differing_36 : decode cX0_differing 36 = .ok (.iaload, 1) := by decide +kernel
theorem dX0_differing_37 : decode cX0_differing 37 = .ok (.imul, 1) := by decide +kernel
theorem dX0_differing_38 : decode cX0_differing 38 = .ok (.iadd, 1) := by decide +kernel
theorem dX0_differing_39 : decode cX0_differing 39 = .ok (.istore_n 1, 1) := by decide +kernel
theorem dX0_differing_40 : decode cX0_differing 40 = .ok (.iload_n 3, 1) := by decide +kernel
theorem dX0_differing_41 : decode cX0_differing 41 = .ok (.aload_n 0, 1) := by decide +kernel
theorem dX0_differing_42 : decode cX0_differing 42 = .ok (.getfield 45, 3) := by decide +kernel
theorem dX0_differing_45 : decode cX0_differing 45 = .ok (.iload 4, 2) := by decide +kernel
theorem dX0_differing_47 : decode cX0_differing 47 = .ok (.iaload, 1) := by decide +kernel
theorem dX0_differing_48 : decode cX0_differing 48 = .ok (.iadd, 1) := by decide +kernel
theorem dX0_differing_49 : decode cX0_differing 49 = .ok (.istore_n 3, 1) := by decide +kernel
theorem dX0_differing_50 : decode cX0_differing 50 = .ok (.iinc 4 1, 3) := by decide +kernel
theorem dX0_differing_53 : decode cX0_differing 53 = .ok (.goto (-31), 3) := by decide +kernel
theorem dX0_differing_56 : decode cX0_differing 56 = .ok (.iinc 2 1, 3) := by decide +kernel
theorem dX0_differing_59 : decode cX0_differing 59 = .ok (.goto (-55), 3) := by decide +kernel
theorem dX0_differing_62 : decode cX0_differing 62 = .ok (.iload_n 1, 1) := by decide +kernel
theorem dX0_differing_63 : decode cX0_differing 63 = .ok (.ireturn, 1) := by decide +kernel
theorem dX0_tallyLetters_0 : decode cX0_tallyLetters 0 = .ok (.aload_n 0, 1) := by decide +kernel
theorem dX0_tallyLetters_1 : decode cX0_tallyLetters 1 = .ok (.getfield 45, 3) := by decide +kernel
theorem dX0_tallyLetters_4 : decode cX0_tallyLetters 4 = .ok (.iconst 0, 1) := by decide +kernel
theorem dX0_tallyLetters_5 : decode cX0_tallyLetters 5 = .ok (.invokestatic 51, 3) := by decide +kernel
theorem dX0_tallyLetters_8 : decode cX0_tallyLetters 8 = .ok (.iconst 0, 1) := by decide +kernel
theorem dX0_tallyLetters_9 : decode cX0_tallyLetters 9 = .ok (.istore_n 2, 1) := by decide +kernel
theorem dX0_tallyLetters_10 : decode cX0_tallyLetters 10 = .ok (.iload_n 2, 1) := by decide +kernel
theorem dX0_tallyLetters_11 : decode cX0_tallyLetters 11 = .ok (.aload_n 0, 1) := by decide +kernel
theorem dX0_tallyLetters_12 : decode cX0_tallyLetters 12 = .ok (.getfield 7, 3) := by decide +kernel
theorem dX0_tallyLetters_15 : decode cX0_tallyLetters 15 = .ok (.if_icmp .ge 33, 3) := by decide +kernel
theorem dX0_tallyLetters_18 : decode cX0_tallyLetters 18 = .ok (.aload_n 0, 1) := by decide +kernel
theorem dX0_tallyLetters_19 : decode cX0_tallyLetters 19 = .ok (.getfield 17, 3) := by decide +kernel
theorem dX0_tallyLetters_22 : decode cX0_tallyLetters 22 = .ok (.iload_n 2, 1) := by decide +kernel
theorem dX0_tallyLetters_23 : decode cX0_tallyLetters 23 = .ok (.baload, 1) := by decide +kernel
theorem dX0_tallyLetters_24 : decode cX0_tallyLetters 24 = .ok (.ifCond .eq 18, 3) := by decide +kernel
theorem dX0_tallyLetters_27 : decode cX0_tallyLetters 27 = .ok (.aload_n 0, 1) := by decide +kernel
theorem dX0_tallyLetters_28 : decode cX0_tallyLetters 28 = .ok (.getfield 45, 3) := by decide +kernel
theorem dX0_tallyLetters_31 : decode cX0_tallyLetters 31 = .ok (.aload_n 0, 1) := by decide +kernel
theorem dX0_tallyLetters_32 : decode cX0_tallyLetters 32 = .ok (.iload_n 1, 1) := by decide +kernel
theorem dX0_tallyLetters_33 : decode cX0_tallyLetters 33 = .ok (.iload_n 2, 1) := by decide +kernel
theorem dX0_tallyLetters_34 : decode cX0_tallyLetters 34 = .ok (.invokevirtual 149, 3) := by decide +kernel
theorem dX0_tallyLetters_37 : decode cX0_tallyLetters 37 = .ok (.dup2, 1) := by decide +kernel
theorem dX0_tallyLetters_38 : decode cX0_tallyLetters 38 = .ok (.iaload, 1) := by decide +kernel
theorem dX0_tallyLetters_39 : decode cX0_tallyLetters 39 = .ok (.iconst 1, 1) := by decide +kernel
theorem dX0_tallyLetters_40 : decode cX0_tallyLetters 40 = .ok (.iadd, 1) := by decide +kernel
theorem dX0_tallyLetters_41 : decode cX0_tallyLetters 41 = .ok (.iastore, 1) := by decide +kernel
theorem dX0_tallyLetters_42 : decode cX0_tallyLetters 42 = .ok (.iinc 2 1, 3) := by decide +kernel
theorem dX0_tallyLetters_45 : decode cX0_tallyLetters 45 = .ok (.goto (-35), 3) := by decide +kernel
theorem dX0_tallyLetters_48 : decode cX0_tallyLetters 48 = .ok (.return_, 1) := by decide +kernel
theorem dX0_letterAt_0 : decode cX0_letterAt 0 = .ok (.iload_n 2, 1) := by decide +kernel
theorem dX0_letterAt_1 : decode cX0_letterAt 1 = .ok (.istore_n 3, 1) := by decide +kernel
theorem dX0_letterAt_2 : decode cX0_letterAt 2 = .ok (.iconst 0, 1) := by decide +kernel
theorem dX0_letterAt_3 : decode cX0_letterAt 3 = .ok (.istore 4, 2) := by decide +kernel
theorem dX0_letterAt_5 : decode cX0_letterAt 5 = .ok (.iload 4, 2) := by decide +kernel
theorem dX0_letterAt_7 : decode cX0_letterAt 7 = .ok (.bipush 14, 2) := by decide +kernel
theorem dX0_letterAt_9 : decode cX0_letterAt 9 = .ok (.if_icmp .ge 48, 3) := by decide +kernel
theorem dX0_letterAt_12 : decode cX0_letterAt 12 = .ok (.iload_n 3, 1) := by decide +kernel
theorem dX0_letterAt_13 : decode cX0_letterAt 13 = .ok (.iconst (-1), 1) := by decide +kernel
theorem dX0_letterAt_14 : decode cX0_letterAt 14 = .ok (.if_icmp .eq 43, 3) := by decide +kernel
theorem dX0_letterAt_17 : decode cX0_letterAt 17 = .ok (.aload_n 0, 1) := by decide +kernel
theorem dX0_letterAt_18 : decode cX0_letterAt 18 = .ok (.getfield 33, 3) := by decide +kernel
theorem dX0_letterAt_21 : decode cX0_letterAt 21 = .ok (.iload_n 1, 1) := by decide +kernel
theorem dX0_letterAt_22 : decode cX0_letterAt 22 = .ok (.bipush 14, 2) := by decide +kernel
theorem dX0_letterAt_24 : decode cX0_letterAt 24 = .ok (.imul, 1) := by decide +kernel
theorem dX0_letterAt_25 : decode cX0_letterAt 25 = .ok (.iload_n 3, 1) := by decide +kernel
theorem dX0_letterAt_26 : decode cX0_letterAt 26 = .ok (.iadd, 1) := by decide +kernel
theorem dX0_letterAt_27 : decode cX0_letterAt 27 = .ok (.iaload, 1) := by decide +kernel
theorem dX0_letterAt_28 : decode cX0_letterAt 28 = .ok (.istore 5, 2) := by decide +kernel
theorem dX0_letterAt_30 : decode cX0_letterAt 30 = .ok (.iload 5, 2) := by decide +kernel
theorem dX0_letterAt_32 : decode cX0_letterAt 32 = .ok (.iconst (-1), 1) := by decide +kernel
theorem dX0_letterAt_33 : decode cX0_letterAt 33 = .ok (.if_icmp .eq 6, 3) := by decide +kernel
theorem dX0_letterAt_36 : decode cX0_letterAt 36 = .ok (.iload 5, 2) := by decide +kernel
theorem dX0_letterAt_38 : decode cX0_letterAt 38 = .ok (.ireturn, 1) := by decide +kernel
theorem dX0_letterAt_39 : decode cX0_letterAt 39 = .ok (.aload_n 0, 1) := by decide +kernel
theorem dX0_letterAt_40 : decode cX0_letterAt 40 = .ok (.aload_n 0, 1) := by decide +kernel
theorem dX0_letterAt_41 : decode cX0_letterAt 41 = .ok (.getfield 27, 3) := by decide +kernel
theorem dX0_letterAt_44 : decode cX0_letterAt 44 = .ok (.iload_n 1, 1) := by decide +kernel
theorem dX0_letterAt_45 : decode cX0_letterAt 45 = .ok (.iaload, 1) := by decide +kernel
theorem dX0_letterAt_46 : decode cX0_letterAt 46 = .ok (.iload_n 3, 1) := by decide +kernel
theorem dX0_letterAt_47 : decode cX0_letterAt 47 = .ok (.invokevirtual 135, 3) := by decide +kernel
theorem dX0_letterAt_50 : decode cX0_letterAt 50 = .ok (.istore_n 3, 1) := by decide +kernel
theorem dX0_letterAt_51 : decode cX0_letterAt 51 = .ok (.iinc 4 1, 3) := by decide +kernel
theorem dX0_letterAt_54 : decode cX0_letterAt 54 = .ok (.goto (-49), 3) := by decide +kernel
theorem dX0_letterAt_57 : decode cX0_letterAt 57 = .ok (.aload_n 0, 1) := by decide +kernel
theorem dX0_letterAt_58 : decode cX0_letterAt 58 = .ok (.getfield 30, 3) := by decide +kernel
theorem dX0_letterAt_61 : decode cX0_letterAt 61 = .ok (.iload_n 1, 1) := by decide +kernel
theorem dX0_letterAt_62 : decode cX0_letterAt 62 = .ok (.iaload, 1) := by decide +kernel
theorem dX0_letterAt_63 : decode cX0_letterAt 63 = .ok (.ireturn, 1) := by decide +kernel
theorem dX0_spectrum_0 : decode cX0_spectrum 0 = .ok (.iload_n 1, 1) := by decide +kernel
theorem dX0_spectrum_1 : decode cX0_spectrum 1 = .ok (.iconst 1, 1) := by decide +kernel
theorem dX0_spectrum_2 : decode cX0_spectrum 2 = .ok (.if_icmp .ge 5, 3) := by decide +kernel
theorem dX0_spectrum_5 : decode cX0_spectrum 5 = .ok (.iconst 0, 1) := by decide +kernel
theorem dX0_spectrum_6 : decode cX0_spectrum 6 = .ok (.ireturn, 1) := by decide +kernel
theorem dX0_spectrum_7 : decode cX0_spectrum 7 = .ok (.iconst 0, 1) := by decide +kernel
theorem dX0_spectrum_8 : decode cX0_spectrum 8 = .ok (.istore_n 2, 1) := by decide +kernel
theorem dX0_spectrum_9 : decode cX0_spectrum 9 = .ok (.iconst 0, 1) := by decide +kernel
theorem dX0_spectrum_10 : decode cX0_spectrum 10 = .ok (.istore_n 3, 1) := by decide +kernel
theorem dX0_spectrum_11 : decode cX0_spectrum 11 = .ok (.iload_n 3, 1) := by decide +kernel
theorem dX0_spectrum_12 : decode cX0_spectrum 12 = .ok (.aload_n 0, 1) := by decide +kernel
theorem dX0_spectrum_13 : decode cX0_spectrum 13 = .ok (.getfield 24, 3) := by decide +kernel
theorem dX0_spectrum_16 : decode cX0_spectrum 16 = .ok (.if_icmp .ge 54, 3) := by decide +kernel
theorem dX0_spectrum_19 : decode cX0_spectrum 19 = .ok (.aload_n 0, 1) := by decide +kernel
theorem dX0_spectrum_20 : decode cX0_spectrum 20 = .ok (.iload_n 3, 1) := by decide +kernel
theorem dX0_spectrum_21 : decode cX0_spectrum 21 = .ok (.invokevirtual 152, 3) := by decide +kernel
theorem dX0_spectrum_24 : decode cX0_spectrum 24 = .ok (.iconst 0, 1) := by decide +kernel
theorem dX0_spectrum_25 : decode cX0_spectrum 25 = .ok (.istore 4, 2) := by decide +kernel
theorem dX0_spectrum_27 : decode cX0_spectrum 27 = .ok (.iload 4, 2) := by decide +kernel
theorem dX0_spectrum_29 : decode cX0_spectrum 29 = .ok (.iconst 4, 1) := by decide +kernel
theorem dX0_spectrum_30 : decode cX0_spectrum 30 = .ok (.if_icmp .ge 34, 3) := by decide +kernel
theorem dX0_spectrum_33 : decode cX0_spectrum 33 = .ok (.iload 4, 2) := by decide +kernel
theorem dX0_spectrum_35 : decode cX0_spectrum 35 = .ok (.aload_n 0, 1) := by decide +kernel
theorem dX0_spectrum_36 : decode cX0_spectrum 36 = .ok (.getfield 30, 3) := by decide +kernel
theorem dX0_spectrum_39 : decode cX0_spectrum 39 = .ok (.iload_n 3, 1) := by decide +kernel
theorem dX0_spectrum_40 : decode cX0_spectrum 40 = .ok (.iaload, 1) := by decide +kernel
theorem dX0_spectrum_41 : decode cX0_spectrum 41 = .ok (.if_icmp .eq 17, 3) := by decide +kernel
theorem dX0_spectrum_44 : decode cX0_spectrum 44 = .ok (.aload_n 0, 1) := by decide +kernel
theorem dX0_spectrum_45 : decode cX0_spectrum 45 = .ok (.getfield 45, 3) := by decide +kernel
theorem dX0_spectrum_48 : decode cX0_spectrum 48 = .ok (.iload 4, 2) := by decide +kernel
theorem dX0_spectrum_50 : decode cX0_spectrum 50 = .ok (.iaload, 1) := by decide +kernel
theorem dX0_spectrum_51 : decode cX0_spectrum 51 = .ok (.iload_n 1, 1) := by decide +kernel
theorem dX0_spectrum_52 : decode cX0_spectrum 52 = .ok (.if_icmp .ne 6, 3) := by decide +kernel
theorem dX0_spectrum_55 : decode cX0_spectrum 55 = .ok (.iinc 2 1, 3) := by decide +kernel
theorem dX0_spectrum_58 : decode cX0_spectrum 58 = .ok (.iinc 4 1, 3) := by decide +kernel
theorem dX0_spectrum_61 : decode cX0_spectrum 61 = .ok (.goto (-34), 3) := by decide +kernel
theorem dX0_spectrum_64 : decode cX0_spectrum 64 = .ok (.iinc 3 1, 3) := by decide +kernel
theorem dX0_spectrum_67 : decode cX0_spectrum 67 = .ok (.goto (-56), 3) := by decide +kernel
theorem dX0_spectrum_70 : decode cX0_spectrum 70 = .ok (.iload_n 2, 1) := by decide +kernel
theorem dX0_spectrum_71 : decode cX0_spectrum 71 = .ok (.ireturn, 1) := by decide +kernel
theorem dX0_area_0 : decode cX0_area 0 = .ok (.aload_n 0, 1) := by decide +kernel
theorem dX0_area_1 : decode cX0_area 1 = .ok (.invokevirtual 113, 3) := by decide +kernel
theorem dX0_area_4 : decode cX0_area 4 = .ok (.istore_n 1, 1) := by decide +kernel
theorem dX0_area_5 : decode cX0_area 5 = .ok (.iconst 0, 1) := by decide +kernel
theorem dX0_area_6 : decode cX0_area 6 = .ok (.istore_n 2, 1) := by decide +kernel
theorem dX0_area_7 : decode cX0_area 7 = .ok (.iconst 0, 1) := by decide +kernel
theorem dX0_area_8 : decode cX0_area 8 = .ok (.istore_n 3, 1) := by decide +kernel
theorem dX0_area_9 : decode cX0_area 9 = .ok (.iload_n 3, 1) := by decide +kernel
theorem dX0_area_10 : decode cX0_area 10 = .ok (.bipush 60, 2) := by decide +kernel
theorem dX0_area_12 : decode cX0_area 12 = .ok (.if_icmp .ge 86, 3) := by decide +kernel
theorem dX0_area_15 : decode cX0_area 15 = .ok (.aload_n 0, 1) := by decide +kernel
theorem dX0_area_16 : decode cX0_area 16 = .ok (.iload_n 3, 1) := by decide +kernel
theorem dX0_area_17 : decode cX0_area 17 = .ok (.invokevirtual 156, 3) := by decide +kernel
theorem dX0_area_20 : decode cX0_area 20 = .ok (.iconst 0, 1) := by decide +kernel
theorem dX0_area_21 : decode cX0_area 21 = .ok (.istore 4, 2) := by decide +kernel
theorem dX0_area_23 : decode cX0_area 23 = .ok (.iload 4, 2) := by decide +kernel
theorem dX0_area_25 : decode cX0_area 25 = .ok (.aload_n 0, 1) := by decide +kernel
theorem dX0_area_26 : decode cX0_area 26 = .ok (.getfield 7, 3) := by decide +kernel
theorem dX0_area_29 : decode cX0_area 29 = .ok (.if_icmp .ge 63, 3) := by decide +kernel
theorem dX0_area_32 : decode cX0_area 32 = .ok (.aload_n 0, 1) := by decide +kernel
theorem dX0_area_33 : decode cX0_area 33 = .ok (.iload_n 3, 1) := by decide +kernel
theorem dX0_area_34 : decode cX0_area 34 = .ok (.iload 4, 2) := by decide +kernel
theorem dX0_area_36 : decode cX0_area 36 = .ok (.invokevirtual 135, 3) := by decide +kernel
theorem dX0_area_39 : decode cX0_area 39 = .ok (.istore 5, 2) := by decide +kernel
theorem dX0_area_41 : decode cX0_area 41 = .ok (.iload 5, 2) := by decide +kernel
theorem dX0_area_43 : decode cX0_area 43 = .ok (.iconst (-1), 1) := by decide +kernel
theorem dX0_area_44 : decode cX0_area 44 = .ok (.if_icmp .eq 42, 3) := by decide +kernel
theorem dX0_area_47 : decode cX0_area 47 = .ok (.aload_n 0, 1) := by decide +kernel
theorem dX0_area_48 : decode cX0_area 48 = .ok (.getfield 39, 3) := by decide +kernel
theorem dX0_area_51 : decode cX0_area 51 = .ok (.iload 4, 2) := by decide +kernel
theorem dX0_area_53 : decode cX0_area 53 = .ok (.iaload, 1) := by decide +kernel
theorem dX0_area_54 : decode cX0_area 54 = .ok (.ifCond .le 32, 3) := by decide +kernel
theorem dX0_area_57 : decode cX0_area 57 = .ok (.aload_n 0, 1) := by decide +kernel
theorem dX0_area_58 : decode cX0_area 58 = .ok (.getfield 39, 3) := by decide +kernel
theorem dX0_area_61 : decode cX0_area 61 = .ok (.iload 4, 2) := by decide +kernel
theorem dX0_area_63 : decode cX0_area 63 = .ok (.iaload, 1) := by decide +kernel
theorem dX0_area_64 : decode cX0_area 64 = .ok (.iload_n 1, 1) := by decide +kernel
theorem dX0_area_65 : decode cX0_area 65 = .ok (.if_icmp .ge 21, 3) := by decide +kernel
theorem dX0_area_68 : decode cX0_area 68 = .ok (.iload_n 2, 1) := by decide +kernel
theorem dX0_area_69 : decode cX0_area 69 = .ok (.aload_n 0, 1) := by decide +kernel
theorem dX0_area_70 : decode cX0_area 70 = .ok (.getfield 13, 3) := by decide +kernel
theorem dX0_area_73 : decode cX0_area 73 = .ok (.iload 5, 2) := by decide +kernel
theorem dX0_area_75 : decode cX0_area 75 = .ok (.iaload, 1) := by decide +kernel
theorem dX0_area_76 : decode cX0_area 76 = .ok (.aload_n 0, 1) := by decide +kernel
theorem dX0_area_77 : decode cX0_area 77 = .ok (.getfield 13, 3) := by decide +kernel
theorem dX0_area_80 : decode cX0_area 80 = .ok (.iload 4, 2) := by decide +kernel
theorem dX0_area_82 : decode cX0_area 82 = .ok (.iaload, 1) := by decide +kernel
theorem dX0_area_83 : decode cX0_area 83 = .ok (.isub, 1) := by decide +kernel
theorem dX0_area_84 : decode cX0_area 84 = .ok (.iadd, 1) := by decide +kernel
theorem dX0_area_85 : decode cX0_area 85 = .ok (.istore_n 2, 1) := by decide +kernel
theorem dX0_area_86 : decode cX0_area 86 = .ok (.iinc 4 1, 3) := by decide +kernel
theorem dX0_area_89 : decode cX0_area 89 = .ok (.goto (-66), 3) := by decide +kernel
theorem dX0_area_92 : decode cX0_area 92 = .ok (.iinc 3 1, 3) := by decide +kernel
theorem dX0_area_95 : decode cX0_area 95 = .ok (.goto (-86), 3) := by decide +kernel
theorem dX0_area_98 : decode cX0_area 98 = .ok (.iload_n 2, 1) := by decide +kernel
theorem dX0_area_99 : decode cX0_area 99 = .ok (.ireturn, 1) := by decide +kernel
theorem dX0_countCarried_0 : decode cX0_countCarried 0 = .ok (.aload_n 0, 1) := by decide +kernel
theorem dX0_countCarried_1 : decode cX0_countCarried 1 = .ok (.getfield 39, 3) := by decide +kernel
theorem dX0_countCarried_4 : decode cX0_countCarried 4 = .ok (.iconst 0, 1) := by decide +kernel
theorem dX0_countCarried_5 : decode cX0_countCarried 5 = .ok (.invokestatic 51, 3) := by decide +kernel
theorem dX0_countCarried_8 : decode cX0_countCarried 8 = .ok (.iconst 0, 1) := by decide +kernel
theorem dX0_countCarried_9 : decode cX0_countCarried 9 = .ok (.istore_n 2, 1) := by decide +kernel
theorem dX0_countCarried_10 : decode cX0_countCarried 10 = .ok (.iload_n 2, 1) := by decide +kernel
theorem dX0_countCarried_11 : decode cX0_countCarried 11 = .ok (.aload_n 0, 1) := by decide +kernel
theorem dX0_countCarried_12 : decode cX0_countCarried 12 = .ok (.getfield 7, 3) := by decide +kernel
theorem dX0_countCarried_15 : decode cX0_countCarried 15 = .ok (.if_icmp .ge 62, 3) := by decide +kernel
theorem dX0_countCarried_18 : decode cX0_countCarried 18 = .ok (.aload_n 0, 1) := by decide +kernel
theorem dX0_countCarried_19 : decode cX0_countCarried 19 = .ok (.getfield 17, 3) := by decide +kernel
theorem dX0_countCarried_22 : decode cX0_countCarried 22 = .ok (.iload_n 2, 1) := by decide +kernel
theorem dX0_countCarried_23 : decode cX0_countCarried 23 = .ok (.baload, 1) := by decide +kernel
theorem dX0_countCarried_24 : decode cX0_countCarried 24 = .ok (.ifCond .eq 7, 3) := by decide +kernel
theorem dX0_countCarried_27 : decode cX0_countCarried 27 = .ok (.iload_n 2, 1) := by decide +kernel
theorem dX0_countCarried_28 : decode cX0_countCarried 28 = .ok (.goto 4, 3) := by decide +kernel
theorem dX0_countCarried_31 : decode cX0_countCarried 31 = .ok (.iconst (-1), 1) := by decide +kernel
theorem dX0_countCarried_32 : decode cX0_countCarried 32 = .ok (.istore_n 3, 1) := by decide +kernel
theorem dX0_countCarried_33 : decode cX0_countCarried 33 = .ok (.iconst 0, 1) := by decide +kernel
theorem dX0_countCarried_34 : decode cX0_countCarried 34 = .ok (.istore 4, 2) := by decide +kernel
theorem dX0_countCarried_36 : decode cX0_countCarried 36 = .ok (.iload 4, 2) := by decide +kernel
theorem dX0_countCarried_38 : decode cX0_countCarried 38 = .ok (.bipush 14, 2) := by decide +kernel
theorem dX0_countCarried_40 : decode cX0_countCarried 40 = .ok (.if_icmp .ge 31, 3) := by decide +kernel
theorem dX0_countCarried_43 : decode cX0_countCarried 43 = .ok (.iload_n 3, 1) := by decide +kernel
theorem dX0_countCarried_44 : decode cX0_countCarried 44 = .ok (.iconst (-1), 1) := by decide +kernel
theorem dX0_countCarried_45 : decode cX0_countCarried 45 = .ok (.if_icmp .eq 26, 3) := by decide +kernel
theorem dX0_countCarried_48 : decode cX0_countCarried 48 = .ok (.aload_n 0, 1) := by decide +kernel
theorem dX0_countCarried_49 : decode cX0_countCarried 49 = .ok (.getfield 39, 3) := by decide +kernel
theorem dX0_countCarried_52 : decode cX0_countCarried 52 = .ok (.iload_n 3, 1) := by decide +kernel
theorem dX0_countCarried_53 : decode cX0_countCarried 53 = .ok (.dup2, 1) := by decide +kernel
theorem dX0_countCarried_54 : decode cX0_countCarried 54 = .ok (.iaload, 1) := by decide +kernel
theorem dX0_countCarried_55 : decode cX0_countCarried 55 = .ok (.iconst 1, 1) := by decide +kernel
theorem dX0_countCarried_56 : decode cX0_countCarried 56 = .ok (.iadd, 1) := by decide +kernel
theorem dX0_countCarried_57 : decode cX0_countCarried 57 = .ok (.iastore, 1) := by decide +kernel
theorem dX0_countCarried_58 : decode cX0_countCarried 58 = .ok (.aload_n 0, 1) := by decide +kernel
theorem dX0_countCarried_59 : decode cX0_countCarried 59 = .ok (.iload_n 1, 1) := by decide +kernel
theorem dX0_countCarried_60 : decode cX0_countCarried 60 = .ok (.iload_n 3, 1) := by decide +kernel
theorem dX0_countCarried_61 : decode cX0_countCarried 61 = .ok (.invokevirtual 135, 3) := by decide +kernel
theorem dX0_countCarried_64 : decode cX0_countCarried 64 = .ok (.istore_n 3, 1) := by decide +kernel
theorem dX0_countCarried_65 : decode cX0_countCarried 65 = .ok (.iinc 4 1, 3) := by decide +kernel
theorem dX0_countCarried_68 : decode cX0_countCarried 68 = .ok (.goto (-32), 3) := by decide +kernel
theorem dX0_countCarried_71 : decode cX0_countCarried 71 = .ok (.iinc 2 1, 3) := by decide +kernel
theorem dX0_countCarried_74 : decode cX0_countCarried 74 = .ok (.goto (-64), 3) := by decide +kernel
theorem dX0_countCarried_77 : decode cX0_countCarried 77 = .ok (.return_, 1) := by decide +kernel
theorem dX0_simplify_0 : decode cX0_simplify 0 = .ok (.iconst 0, 1) := by decide +kernel
theorem dX0_simplify_1 : decode cX0_simplify 1 = .ok (.istore_n 1, 1) := by decide +kernel
theorem dX0_simplify_2 : decode cX0_simplify 2 = .ok (.iconst 0, 1) := by decide +kernel
theorem dX0_simplify_3 : decode cX0_simplify 3 = .ok (.istore_n 2, 1) := by decide +kernel
theorem dX0_simplify_4 : decode cX0_simplify 4 = .ok (.iload_n 2, 1) := by decide +kernel
theorem dX0_simplify_5 : decode cX0_simplify 5 = .ok (.bipush 60, 2) := by decide +kernel
theorem dX0_simplify_7 : decode cX0_simplify 7 = .ok (.if_icmp .ge 29, 3) := by decide +kernel
theorem dX0_simplify_10 : decode cX0_simplify 10 = .ok (.aload_n 0, 1) := by decide +kernel
theorem dX0_simplify_11 : decode cX0_simplify 11 = .ok (.getfield 42, 3) := by decide +kernel
theorem dX0_simplify_14 : decode cX0_simplify 14 = .ok (.iload_n 2, 1) := by decide +kernel
theorem dX0_simplify_15 : decode cX0_simplify 15 = .ok (.aload_n 0, 1) := by decide +kernel
theorem dX0_simplify_16 : decode cX0_simplify 16 = .ok (.iload_n 2, 1) := by decide +kernel
theorem dX0_simplify_17 : decode cX0_simplify 17 = .ok (.invokevirtual 159, 3) := by decide +kernel
theorem dX0_simplify_20 : decode cX0_simplify 20 = .ok (.iastore, 1) := by decide +kernel
theorem dX0_simplify_21 : decode cX0_simplify 21 = .ok (.iload_n 1, 1) := by decide +kernel
theorem dX0_simplify_22 : decode cX0_simplify 22 = .ok (.aload_n 0, 1) := by decide +kernel
theorem dX0_simplify_23 : decode cX0_simplify 23 = .ok (.getfield 42, 3) := by decide +kernel
theorem dX0_simplify_26 : decode cX0_simplify 26 = .ok (.iload_n 2, 1) := by decide +kernel
theorem dX0_simplify_27 : decode cX0_simplify 27 = .ok (.iaload, 1) := by decide +kernel
theorem dX0_simplify_28 : decode cX0_simplify 28 = .ok (.ior, 1) := by decide +kernel
theorem dX0_simplify_29 : decode cX0_simplify 29 = .ok (.istore_n 1, 1) := by decide +kernel
theorem dX0_simplify_30 : decode cX0_simplify 30 = .ok (.iinc 2 1, 3) := by decide +kernel
theorem dX0_simplify_33 : decode cX0_simplify 33 = .ok (.goto (-29), 3) := by decide +kernel
theorem dX0_simplify_36 : decode cX0_simplify 36 = .ok (.aload_n 0, 1) := by decide +kernel
theorem dX0_simplify_37 : decode cX0_simplify 37 = .ok (.iload_n 1, 1) := by decide +kernel
theorem dX0_simplify_38 : decode cX0_simplify 38 = .ok (.invokevirtual 162, 3) := by decide +kernel
theorem dX0_simplify_41 : decode cX0_simplify 41 = .ok (.istore_n 2, 1) := by decide +kernel
theorem dX0_simplify_42 : decode cX0_simplify 42 = .ok (.iconst 0, 1) := by decide +kernel
theorem dX0_simplify_43 : decode cX0_simplify 43 = .ok (.istore_n 3, 1) := by decide +kernel
theorem dX0_simplify_44 : decode cX0_simplify 44 = .ok (.iload_n 3, 1) := by decide +kernel
theorem dX0_simplify_45 : decode cX0_simplify 45 = .ok (.aload_n 0, 1) := by decide +kernel
theorem dX0_simplify_46 : decode cX0_simplify 46 = .ok (.getfield 24, 3) := by decide +kernel
theorem dX0_simplify_49 : decode cX0_simplify 49 = .ok (.if_icmp .ge 14, 3) := by decide +kernel
theorem dX0_simplify_52 : decode cX0_simplify 52 = .ok (.aload_n 0, 1) := by decide +kernel
theorem dX0_simplify_53 : decode cX0_simplify 53 = .ok (.iload_n 3, 1) := by decide +kernel
theorem dX0_simplify_54 : decode cX0_simplify 54 = .ok (.invokevirtual 165, 3) := by decide +kernel
theorem dX0_simplify_57 : decode cX0_simplify 57 = .ok (.iinc 3 1, 3) := by decide +kernel
theorem dX0_simplify_60 : decode cX0_simplify 60 = .ok (.goto (-16), 3) := by decide +kernel
theorem dX0_simplify_63 : decode cX0_simplify 63 = .ok (.iconst 0, 1) := by decide +kernel
theorem dX0_simplify_64 : decode cX0_simplify 64 = .ok (.istore_n 3, 1) := by decide +kernel
theorem dX0_simplify_65 : decode cX0_simplify 65 = .ok (.iload_n 3, 1) := by decide +kernel
theorem dX0_simplify_66 : decode cX0_simplify 66 = .ok (.bipush 60, 2) := by decide +kernel
theorem dX0_simplify_68 : decode cX0_simplify 68 = .ok (.if_icmp .ge 14, 3) := by decide +kernel
theorem dX0_simplify_71 : decode cX0_simplify 71 = .ok (.aload_n 0, 1) := by decide +kernel
theorem dX0_simplify_72 : decode cX0_simplify 72 = .ok (.iload_n 3, 1) := by decide +kernel
theorem dX0_simplify_73 : decode cX0_simplify 73 = .ok (.invokevirtual 168, 3) := by decide +kernel
theorem dX0_simplify_76 : decode cX0_simplify 76 = .ok (.iinc 3 1, 3) := by decide +kernel
theorem dX0_simplify_79 : decode cX0_simplify 79 = .ok (.goto (-14), 3) := by decide +kernel
theorem dX0_simplify_82 : decode cX0_simplify 82 = .ok (.aload_n 0, 1) := by decide +kernel
theorem dX0_simplify_83 : decode cX0_simplify 83 = .ok (.invokevirtual 171, 3) := by decide +kernel
theorem dX0_simplify_86 : decode cX0_simplify 86 = .ok (.aload_n 0, 1) := by decide +kernel
theorem dX0_simplify_87 : decode cX0_simplify 87 = .ok (.iload_n 2, 1) := by decide +kernel
theorem dX0_simplify_88 : decode cX0_simplify 88 = .ok (.putfield 7, 3) := by decide +kernel
theorem dX0_simplify_91 : decode cX0_simplify 91 = .ok (.iload_n 2, 1) := by decide +kernel
theorem dX0_simplify_92 : decode cX0_simplify 92 = .ok (.ireturn, 1) := by decide +kernel
theorem dX0_findMattering_0 : decode cX0_findMattering 0 = .ok (.aload_n 0, 1) := by decide +kernel
theorem dX0_findMattering_1 : decode cX0_findMattering 1 = .ok (.iload_n 1, 1) := by decide +kernel
theorem dX0_findMattering_2 : decode cX0_findMattering 2 = .ok (.invokevirtual 156, 3) := by decide +kernel
theorem dX0_findMattering_5 : decode cX0_findMattering 5 = .ok (.iconst 0, 1) := by decide +kernel
theorem dX0_findMattering_6 : decode cX0_findMattering 6 = .ok (.istore_n 2, 1) := by decide +kernel
theorem dX0_findMattering_7 : decode cX0_findMattering 7 = .ok (.iconst 0, 1) := by decide +kernel
theorem dX0_findMattering_8 : decode cX0_findMattering 8 = .ok (.istore_n 3, 1) := by decide +kernel
theorem dX0_findMattering_9 : decode cX0_findMattering 9 = .ok (.iload_n 3, 1) := by decide +kernel
theorem dX0_findMattering_10 : decode cX0_findMattering 10 = .ok (.aload_n 0, 1) := by decide +kernel
theorem dX0_findMattering_11 : decode cX0_findMattering 11 = .ok (.getfield 7, 3) := by decide +kernel
theorem dX0_findMattering_14 : decode cX0_findMattering 14 = .ok (.if_icmp .ge 34, 3) := by decide +kernel
theorem dX0_findMattering_17 : decode cX0_findMattering 17 = .ok (.aload_n 0, 1) := by decide +kernel
theorem dX0_findMattering_18 : decode cX0_findMattering 18 = .ok (.getfield 17, 3) := by decide +kernel
theorem dX0_findMattering_21 : decode cX0_findMattering 21 = .ok (.iload_n 3, 1) := by decide +kernel
theorem dX0_findMattering_22 : decode cX0_findMattering 22 = .ok (.baload, 1) := by decide +kernel
theorem dX0_findMattering_23 : decode cX0_findMattering 23 = .ok (.ifCond .ne 13, 3) := by decide +kernel
theorem dX0_findMattering_26 : decode cX0_findMattering 26 = .ok (.aload_n 0, 1) := by decide +kernel
theorem dX0_findMattering_27 : decode cX0_findMattering 27 = .ok (.iload_n 1, 1) := by decide +kernel
theorem dX0_findMattering_28 : decode cX0_findMattering 28 = .ok (.iload_n 3, 1) := by decide +kernel
theorem dX0_findMattering_29 : decode cX0_findMattering 29 = .ok (.invokevirtual 183, 3) := by decide +kernel
theorem dX0_findMattering_32 : decode cX0_findMattering 32 = .ok (.iconst 2, 1) := by decide +kernel
theorem dX0_findMattering_33 : decode cX0_findMattering 33 = .ok (.if_icmp .lt 9, 3) := by decide +kernel
theorem dX0_findMattering_36 : decode cX0_findMattering 36 = .ok (.iload_n 2, 1) := by decide +kernel
theorem dX0_findMattering_37 : decode cX0_findMattering 37 = .ok (.iconst 1, 1) := by decide +kernel
theorem dX0_findMattering_38 : decode cX0_findMattering 38 = .ok (.iload_n 3, 1) := by decide +kernel
theorem dX0_findMattering_39 : decode cX0_findMattering 39 = .ok (.ishl, 1) := by decide +kernel
theorem dX0_findMattering_40 : decode cX0_findMattering 40 = .ok (.ior, 1) := by decide +kernel
theorem dX0_findMattering_41 : decode cX0_findMattering 41 = .ok (.istore_n 2, 1) := by decide +kernel
theorem dX0_findMattering_42 : decode cX0_findMattering 42 = .ok (.iinc 3 1, 3) := by decide +kernel
theorem dX0_findMattering_45 : decode cX0_findMattering 45 = .ok (.goto (-36), 3) := by decide +kernel
theorem dX0_findMattering_48 : decode cX0_findMattering 48 = .ok (.iload_n 2, 1) := by decide +kernel
theorem dX0_findMattering_49 : decode cX0_findMattering 49 = .ok (.ireturn, 1) := by decide +kernel
theorem dX0_countLiveChildren_0 : decode cX0_countLiveChildren 0 = .ok (.iconst 0, 1) := by decide +kernel
theorem dX0_countLiveChildren_1 : decode cX0_countLiveChildren 1 = .ok (.istore_n 3, 1) := by decide +kernel
theorem dX0_countLiveChildren_2 : decode cX0_countLiveChildren 2 = .ok (.iconst 0, 1) := by decide +kernel
theorem dX0_countLiveChildren_3 : decode cX0_countLiveChildren 3 = .ok (.istore 4, 2) := by decide +kernel
theorem dX0_countLiveChildren_5 : decode cX0_countLiveChildren 5 = .ok (.iload 4, 2) := by decide +kernel
theorem dX0_countLiveChildren_7 : decode cX0_countLiveChildren 7 = .ok (.aload_n 0, 1) := by decide +kernel
theorem dX0_countLiveChildren_8 : decode cX0_countLiveChildren 8 = .ok (.getfield 7, 3) := by decide +kernel
theorem dX0_countLiveChildren_11 : decode cX0_countLiveChildren 11 = .ok (.if_icmp .ge 33, 3) := by decide +kernel
theorem dX0_countLiveChildren_14 : decode cX0_countLiveChildren 14 = .ok (.aload_n 0, 1) := by decide +kernel
theorem dX0_countLiveChildren_15 : decode cX0_countLiveChildren 15 = .ok (.iload_n 1, 1) := by decide +kernel
theorem dX0_countLiveChildren_16 : decode cX0_countLiveChildren 16 = .ok (.iload 4, 2) := by decide +kernel
theorem dX0_countLiveChildren_18 : decode cX0_countLiveChildren 18 = .ok (.invokevirtual 135, 3) := by decide +kernel
theorem dX0_countLiveChildren_21 : decode cX0_countLiveChildren 21 = .ok (.iload_n 2, 1) := by decide +kernel
theorem dX0_countLiveChildren_22 : decode cX0_countLiveChildren 22 = .ok (.if_icmp .ne 16, 3) := by decide +kernel
theorem dX0_countLiveChildren_25 : decode cX0_countLiveChildren 25 = .ok (.aload_n 0, 1) := by decide +kernel
theorem dX0_countLiveChildren_26 : decode cX0_countLiveChildren 26 = .ok (.getfield 39, 3) := by decide +kernel
theorem dX0_countLiveChildren_29 : decode cX0_countLiveChildren 29 = .ok (.iload 4, 2) := by decide +kernel
theorem dX0_countLiveChildren_31 : decode cX0_countLiveChildren 31 = .ok (.iaload, 1) := by decide +kernel
theorem dX0_countLiveChildren_32 : decode cX0_countLiveChildren 32 = .ok (.ifCond .le 6, 3) := by decide +kernel
theorem dX0_countLiveChildren_35 : decode cX0_countLiveChildren 35 = .ok (.iinc 3 1, 3) := by decide +kernel
theorem dX0_countLiveChildren_38 : decode cX0_countLiveChildren 38 = .ok (.iinc 4 1, 3) := by decide +kernel
theorem dX0_countLiveChildren_41 : decode cX0_countLiveChildren 41 = .ok (.goto (-36), 3) := by decide +kernel
theorem dX0_countLiveChildren_44 : decode cX0_countLiveChildren 44 = .ok (.iload_n 3, 1) := by decide +kernel
theorem dX0_countLiveChildren_45 : decode cX0_countLiveChildren 45 = .ok (.ireturn, 1) := by decide +kernel
theorem dX0_renumber_0 : decode cX0_renumber 0 = .ok (.iconst 0, 1) := by decide +kernel
theorem dX0_renumber_1 : decode cX0_renumber 1 = .ok (.istore_n 2, 1) := by decide +kernel
theorem dX0_renumber_2 : decode cX0_renumber 2 = .ok (.iconst 0, 1) := by decide +kernel
theorem dX0_renumber_3 : decode cX0_renumber 3 = .ok (.istore_n 3, 1) := by decide +kernel
theorem dX0_renumber_4 : decode cX0_renumber 4 = .ok (.iload_n 3, 1) := by decide +kernel
theorem dX0_renumber_5 : decode cX0_renumber 5 = .ok (.bipush 14, 2) := by decide +kernel
theorem dX0_renumber_7 : decode cX0_renumber 7 = .ok (.if_icmp .ge 38, 3) := by decide +kernel
theorem dX0_renumber_10 : decode cX0_renumber 10 = .ok (.iload_n 1, 1) := by decide +kernel
theorem dX0_renumber_11 : decode cX0_renumber 11 = .ok (.iload_n 3, 1) := by decide +kernel
theorem dX0_renumber_12 : decode cX0_renumber 12 = .ok (.ishr, 1) := by decide +kernel
theorem dX0_renumber_13 : decode cX0_renumber 13 = .ok (.iconst 1, 1) := by decide +kernel
theorem dX0_renumber_14 : decode cX0_renumber 14 = .ok (.iand, 1) := by decide +kernel
theorem dX0_renumber_15 : decode cX0_renumber 15 = .ok (.iconst 1, 1) := by decide +kernel
theorem dX0_renumber_16 : decode cX0_renumber 16 = .ok (.if_icmp .ne 16, 3) := by decide +kernel
theorem dX0_renumber_19 : decode cX0_renumber 19 = .ok (.aload_n 0, 1) := by decide +kernel
theorem dX0_renumber_20 : decode cX0_renumber 20 = .ok (.getfield 36, 3) := by decide +kernel
theorem dX0_renumber_23 : decode cX0_renumber 23 = .ok (.iload_n 3, 1) := by decide +kernel
theorem dX0_renumber_24 : decode cX0_renumber 24 = .ok (.iload_n 2, 1) := by decide +kernel
theorem dX0_renumber_25 : decode cX0_renumber 25 = .ok (.iastore, 1) := by decide +kernel
theorem dX0_renumber_26 : decode cX0_renumber 26 = .ok (.iinc 2 1, 3) := by decide +kernel
theorem dX0_renumber_29 : decode cX0_renumber 29 = .ok (.goto 10, 3) := by decide +kernel
theorem dX0_renumber_32 : decode cX0_renumber 32 = .ok (.aload_n 0, 1) := by decide +kernel
theorem dX0_renumber_33 : decode cX0_renumber 33 = .ok (.getfield 36, 3) := by decide +kernel
theorem dX0_renumber_36 : decode cX0_renumber 36 = .ok (.iload_n 3, 1) := by decide +kernel
theorem dX0_renumber_37 : decode cX0_renumber 37 = .ok (.iconst (-1), 1) := by decide +kernel
theorem dX0_renumber_38 : decode cX0_renumber 38 = .ok (.iastore, 1) := by decide +kernel
theorem dX0_renumber_39 : decode cX0_renumber 39 = .ok (.iinc 3 1, 3) := by decide +kernel
theorem dX0_renumber_42 : decode cX0_renumber 42 = .ok (.goto (-38), 3) := by decide +kernel
theorem dX0_renumber_45 : decode cX0_renumber 45 = .ok (.iload_n 2, 1) := by decide +kernel
theorem dX0_renumber_46 : decode cX0_renumber 46 = .ok (.ireturn, 1) := by decide +kernel
theorem dX0_moveMutations_0 : decode cX0_moveMutations 0 = .ok (.aload_n 0, 1) := by decide +kernel
theorem dX0_moveMutations_1 : decode cX0_moveMutations 1 = .ok (.getfield 27, 3) := by decide +kernel
theorem dX0_moveMutations_4 : decode cX0_moveMutations 4 = .ok (.iload_n 1, 1) := by decide +kernel
theorem dX0_moveMutations_5 : decode cX0_moveMutations 5 = .ok (.iaload, 1) := by decide +kernel
theorem dX0_moveMutations_6 : decode cX0_moveMutations 6 = .ok (.istore_n 2, 1) := by decide +kernel
theorem dX0_moveMutations_7 : decode cX0_moveMutations 7 = .ok (.aload_n 0, 1) := by decide +kernel
theorem dX0_moveMutations_8 : decode cX0_moveMutations 8 = .ok (.getfield 48, 3) := by decide +kernel
theorem dX0_moveMutations_11 : decode cX0_moveMutations 11 = .ok (.iconst (-1), 1) := by decide +kernel
theorem dX0_moveMutations_12 : decode cX0_moveMutations 12 = .ok (.invokestatic 51, 3) := by decide +kernel
theorem dX0_moveMutations_15 : decode cX0_moveMutations 15 = .ok (.iconst 0, 1) := by decide +kernel
theorem dX0_moveMutations_16 : decode cX0_moveMutations 16 = .ok (.istore_n 3, 1) := by decide +kernel
theorem dX0_moveMutations_17 : decode cX0_moveMutations 17 = .ok (.iload_n 3, 1) := by decide +kernel
theorem dX0_moveMutations_18 : decode cX0_moveMutations 18 = .ok (.aload_n 0, 1) := by decide +kernel
theorem dX0_moveMutations_19 : decode cX0_moveMutations 19 = .ok (.getfield 7, 3) := by decide +kernel
theorem dX0_moveMutations_22 : decode cX0_moveMutations 22 = .ok (.if_icmp .ge 35, 3) := by decide +kernel
theorem dX0_moveMutations_25 : decode cX0_moveMutations 25 = .ok (.aload_n 0, 1) := by decide +kernel
theorem dX0_moveMutations_26 : decode cX0_moveMutations 26 = .ok (.iload_n 2, 1) := by decide +kernel
theorem dX0_moveMutations_27 : decode cX0_moveMutations 27 = .ok (.iload_n 3, 1) := by decide +kernel
theorem dX0_moveMutations_28 : decode cX0_moveMutations 28 = .ok (.invokevirtual 186, 3) := by decide +kernel
theorem dX0_moveMutations_31 : decode cX0_moveMutations 31 = .ok (.ifCond .eq 20, 3) := by decide +kernel
theorem dX0_moveMutations_34 : decode cX0_moveMutations 34 = .ok (.aload_n 0, 1) := by decide +kernel
theorem dX0_moveMutations_35 : decode cX0_moveMutations 35 = .ok (.getfield 48, 3) := by decide +kernel
theorem dX0_moveMutations_38 : decode cX0_moveMutations 38 = .ok (.aload_n 0, 1) := by decide +kernel
theorem dX0_moveMutations_39 : decode cX0_moveMutations 39 = .ok (.getfield 36, 3) := by decide +kernel
theorem dX0_moveMutations_42 : decode cX0_moveMutations 42 = .ok (.iload_n 3, 1) := by decide +kernel
theorem dX0_moveMutations_43 : decode cX0_moveMutations 43 = .ok (.iaload, 1) := by decide +kernel
theorem dX0_moveMutations_44 : decode cX0_moveMutations 44 = .ok (.aload_n 0, 1) := by decide +kernel
theorem dX0_moveMutations_45 : decode cX0_moveMutations 45 = .ok (.iload_n 1, 1) := by decide +kernel
theorem dX0_moveMutations_46 : decode cX0_moveMutations 46 = .ok (.iload_n 3, 1) := by decide +kernel
theorem dX0_moveMutations_47 : decode cX0_moveMutations 47 = .ok (.invokevirtual 189, 3) := by decide +kernel
theorem dX0_moveMutations_50 : decode cX0_moveMutations 50 = .ok (.iastore, 1) := by decide +kernel
theorem dX0_moveMutations_51 : decode cX0_moveMutations 51 = .ok (.iinc 3 1, 3) := by decide +kernel
theorem dX0_moveMutations_54 : decode cX0_moveMutations 54 = .ok (.goto (-37), 3) := by decide +kernel
theorem dX0_moveMutations_57 : decode cX0_moveMutations 57 = .ok (.aload_n 0, 1) := by decide +kernel
theorem dX0_moveMutations_58 : decode cX0_moveMutations 58 = .ok (.getfield 48, 3) := by decide +kernel
theorem dX0_moveMutations_61 : decode cX0_moveMutations 61 = .ok (.iconst 0, 1) := by decide +kernel
theorem dX0_moveMutations_62 : decode cX0_moveMutations 62 = .ok (.aload_n 0, 1) := by decide +kernel
theorem dX0_moveMutations_63 : decode cX0_moveMutations 63 = .ok (.getfield 33, 3) := by decide +kernel
theorem dX0_moveMutations_66 : decode cX0_moveMutations 66 = .ok (.iload_n 1, 1) := by decide +kernel
theorem dX0_moveMutations_67 : decode cX0_moveMutations 67 = .ok (.bipush 14, 2) := by decide +kernel
theorem dX0_moveMutations_69 : decode cX0_moveMutations 69 = .ok (.imul, 1) := by decide +kernel
theorem dX0_moveMutations_70 : decode cX0_moveMutations 70 = .ok (.bipush 14, 2) := by decide +kernel
theorem dX0_moveMutations_72 : decode cX0_moveMutations 72 = .ok (.invokestatic 192, 3) := by decide +kernel
theorem dX0_moveMutations_75 : decode cX0_moveMutations 75 = .ok (.return_, 1) := by decide +kernel
theorem dX0_matters_0 : decode cX0_matters 0 = .ok (.aload_n 0, 1) := by decide +kernel
theorem dX0_matters_1 : decode cX0_matters 1 = .ok (.getfield 42, 3) := by decide +kernel
theorem dX0_matters_4 : decode cX0_matters 4 = .ok (.iload_n 1, 1) := by decide +kernel
theorem dX0_matters_5 : decode cX0_matters 5 = .ok (.iaload, 1) := by decide +kernel
theorem dX0_matters_6 : decode cX0_matters 6 = .ok (.iload_n 2, 1) := by decide +kernel
theorem dX0_matters_7 : decode cX0_matters 7 = .ok (.ishr, 1) := by decide +kernel
theorem dX0_matters_8 : decode cX0_matters 8 = .ok (.iconst 1, 1) := by decide +kernel
theorem dX0_matters_9 : decode cX0_matters 9 = .ok (.iand, 1) := by decide +kernel
theorem dX0_matters_10 : decode cX0_matters 10 = .ok (.iconst 1, 1) := by decide +kernel
theorem dX0_matters_11 : decode cX0_matters 11 = .ok (.if_icmp .ne 7, 3) := by decide +kernel
theorem dX0_matters_14 : decode cX0_matters 14 = .ok (.iconst 1, 1) := by decide +kernel
theorem dX0_matters_15 : decode cX0_matters 15 = .ok (.goto 4, 3) := by decide +kernel
theorem dX0_matters_18 : decode cX0_matters 18 = .ok (.iconst 0, 1) := by decide +kernel
theorem dX0_matters_19 : decode cX0_matters 19 = .ok (.ireturn, 1) := by decide +kernel
theorem dX0_mutationComingTo_0 : decode cX0_mutationComingTo 0 = .ok (.aload_n 0, 1) := by decide +kernel
theorem dX0_mutationComingTo_1 : decode cX0_mutationComingTo 1 = .ok (.getfield 27, 3) := by decide +kernel
theorem dX0_mutationComingTo_4 : decode cX0_mutationComingTo 4 = .ok (.iload_n 1, 1) := by decide +kernel
theorem dX0_mutationComingTo_5 : decode cX0_mutationComingTo 5 = .ok (.iaload, 1) := by decide +kernel
theorem dX0_mutationComingTo_6 : decode cX0_mutationComingTo 6 = .ok (.istore_n 3, 1) := by decide +kernel
theorem dX0_mutationComingTo_7 : decode cX0_mutationComingTo 7 = .ok (.aload_n 0, 1) := by decide +kernel
theorem dX0_mutationComingTo_8 : decode cX0_mutationComingTo 8 = .ok (.getfield 33, 3) := by decide +kernel
theorem dX0_mutationComingTo_11 : decode cX0_mutationComingTo 11 = .ok (.iload_n 1, 1) := by decide +kernel
theorem dX0_mutationComingTo_12 : decode cX0_mutationComingTo 12 = .ok (.bipush 14, 2) := by decide +kernel
theorem dX0_mutationComingTo_14 : decode cX0_mutationComingTo 14 = .ok (.imul, 1) := by decide +kernel
theorem dX0_mutationComingTo_15 : decode cX0_mutationComingTo 15 = .ok (.iload_n 2, 1) := by decide +kernel
theorem dX0_mutationComingTo_16 : decode cX0_mutationComingTo 16 = .ok (.iadd, 1) := by decide +kernel
theorem dX0_mutationComingTo_17 : decode cX0_mutationComingTo 17 = .ok (.iaload, 1) := by decide +kernel
theorem dX0_mutationComingTo_18 : decode cX0_mutationComingTo 18 = .ok (.istore 4, 2) := by decide +kernel
theorem dX0_mutationComingTo_20 : decode cX0_mutationComingTo 20 = .ok (.aload_n 0, 1) := by decide +kernel
theorem dX0_mutationComingTo_21 : decode cX0_mutationComingTo 21 = .ok (.iload_n 3, 1) := by decide +kernel
theorem dX0_mutationComingTo_22 : decode cX0_mutationComingTo 22 = .ok (.iload_n 2, 1) := by decide +kernel
theorem dX0_mutationComingTo_23 : decode cX0_mutationComingTo 23 = .ok (.invokevirtual 135, 3) := by decide +kernel
theorem dX0_mutationComingTo_26 : decode cX0_mutationComingTo 26 = .ok (.istore 5, 2) := by decide +kernel
theorem dX0_mutationComingTo_28 : decode cX0_mutationComingTo 28 = .ok (.iconst 0, 1) := by decide +kernel
theorem dX0_mutationComingTo_29 : decode cX0_mutationComingTo 29 = .ok (.istore 6, 2) := by decide +kernel
theorem dX0_mutationComingTo_31 : decode cX0_mutationComingTo 31 = .ok (.iload 6, 2) := by decide +kernel
theorem dX0_mutationComingTo_33 : decode cX0_mutationComingTo 33 = .ok (.bipush 14, 2) := by decide +kernel
theorem dX0_mutationComingTo_35 : decode cX0_mutationComingTo 35 = .ok (.if_icmp .ge 54, 3) := by decide +kernel
theorem dX0_mutationComingTo_38 : decode cX0_mutationComingTo 38 = .ok (.iload 4, 2) := by decide +kernel
theorem dX0_mutationComingTo_40 : decode cX0_mutationComingTo 40 = .ok (.iconst (-1), 1) := by decide +kernel
theorem dX0_mutationComingTo_41 : decode cX0_mutationComingTo 41 = .ok (.if_icmp .ne 48, 3) := by decide +kernel
theorem dX0_mutationComingTo_44 : decode cX0_mutationComingTo 44 = .ok (.iload 5, 2) := by decide +kernel
theorem dX0_mutationComingTo_46 : decode cX0_mutationComingTo 46 = .ok (.iconst (-1), 1) := by decide +kernel
theorem dX0_mutationComingTo_47 : decode cX0_mutationComingTo 47 = .ok (.if_icmp .eq 42, 3) := by decide +kernel
theorem dX0_mutationComingTo_50 : decode cX0_mutationComingTo 50 = .ok (.aload_n 0, 1) := by decide +kernel
theorem dX0_mutationComingTo_51 : decode cX0_mutationComingTo 51 = .ok (.iload_n 3, 1) := by decide +kernel
theorem dX0_mutationComingTo_52 : decode cX0_mutationComingTo 52 = .ok (.iload 5, 2) := by decide +kernel
theorem dX0_mutationComingTo_54 : decode cX0_mutationComingTo 54 = .ok (.invokevirtual 186, 3) := by decide +kernel
theorem dX0_mutationComingTo_57 : decode cX0_mutationComingTo 57 = .ok (.ifCond .ne 32, 3) := by decide +kernel
theorem dX0_mutationComingTo_60 : decode cX0_mutationComingTo 60 = .ok (.aload_n 0, 1) := by decide +kernel
theorem dX0_mutationComingTo_61 : decode cX0_mutationComingTo 61 = .ok (.getfield 33, 3) := by decide +kernel
theorem dX0_mutationComingTo_64 : decode cX0_mutationComingTo 64 = .ok (.iload_n 1, 1) := by decide +kernel
theorem dX0_mutationComingTo_65 : decode cX0_mutationComingTo 65 = .ok (.bipush 14, 2) := by decide +kernel
theorem dX0_mutationComingTo_67 : decode cX0_mutationComingTo 67 = .ok (.imul, 1) := by decide +kernel
theorem dX0_mutationComingTo_68 : decode cX0_mutationComingTo 68 = .ok (.iload 5, 2) := by decide +kernel
theorem dX0_mutationComingTo_70 : decode cX0_mutationComingTo 70 = .ok (.iadd, 1) := by decide +kernel
theorem dX0_mutationComingTo_71 : decode cX0_mutationComingTo 71 = .ok (.iaload, 1) := by decide +kernel
theorem dX0_mutationComingTo_72 : decode cX0_mutationComingTo 72 = .ok (.istore 4, 2) := by decide +kernel
theorem dX0_mutationComingTo_74 : decode cX0_mutationComingTo 74 = .ok (.aload_n 0, 1) := by decide +kernel
theorem dX0_mutationComingTo_75 : decode cX0_mutationComingTo 75 = .ok (.iload_n 3, 1) := by decide +kernel
theorem dX0_mutationComingTo_76 : decode cX0_mutationComingTo 76 = .ok (.iload 5, 2) := by decide +kernel
theorem dX0_mutationComingTo_78 : decode cX0_mutationComingTo 78 = .ok (.invokevirtual 135, 3) := by decide +kernel
theorem dX0_mutationComingTo_81 : decode cX0_mutationComingTo 81 = .ok (.istore 5, 2) := by decide +kernel
theorem dX0_mutationComingTo_83 : decode cX0_mutationComingTo 83 = .ok (.iinc 6 1, 3) := by decide +kernel
theorem dX0_mutationComingTo_86 : decode cX0_mutationComingTo 86 = .ok (.goto (-55), 3) := by decide +kernel
theorem dX0_mutationComingTo_89 : decode cX0_mutationComingTo 89 = .ok (.iload 4, 2) := by decide +kernel
theorem dX0_mutationComingTo_91 : decode cX0_mutationComingTo 91 = .ok (.ireturn, 1) := by decide +kernel
theorem dX0_moveParents_0 : decode cX0_moveParents 0 = .ok (.aload_n 0, 1) := by decide +kernel
theorem dX0_moveParents_1 : decode cX0_moveParents 1 = .ok (.getfield 48, 3) := by decide +kernel
theorem dX0_moveParents_4 : decode cX0_moveParents 4 = .ok (.iconst (-1), 1) := by decide +kernel
theorem dX0_moveParents_5 : decode cX0_moveParents 5 = .ok (.invokestatic 51, 3) := by decide +kernel
theorem dX0_moveParents_8 : decode cX0_moveParents 8 = .ok (.iconst 0, 1) := by decide +kernel
theorem dX0_moveParents_9 : decode cX0_moveParents 9 = .ok (.istore_n 2, 1) := by decide +kernel
theorem dX0_moveParents_10 : decode cX0_moveParents 10 = .ok (.iload_n 2, 1) := by decide +kernel
theorem dX0_moveParents_11 : decode cX0_moveParents 11 = .ok (.aload_n 0, 1) := by decide +kernel
theorem dX0_moveParents_12 : decode cX0_moveParents 12 = .ok (.getfield 7, 3) := by decide +kernel
theorem dX0_moveParents_15 : decode cX0_moveParents 15 = .ok (.if_icmp .ge 51, 3) := by decide +kernel
theorem dX0_moveParents_18 : decode cX0_moveParents 18 = .ok (.aload_n 0, 1) := by decide +kernel
theorem dX0_moveParents_19 : decode cX0_moveParents 19 = .ok (.iload_n 1, 1) := by decide +kernel
theorem dX0_moveParents_20 : decode cX0_moveParents 20 = .ok (.iload_n 2, 1) := by decide +kernel
theorem dX0_moveParents_21 : decode cX0_moveParents 21 = .ok (.invokevirtual 186, 3) := by decide +kernel
theorem dX0_moveParents_24 : decode cX0_moveParents 24 = .ok (.ifCond .eq 36, 3) := by decide +kernel
theorem dX0_moveParents_27 : decode cX0_moveParents 27 = .ok (.aload_n 0, 1) := by decide +kernel
theorem dX0_moveParents_28 : decode cX0_moveParents 28 = .ok (.iload_n 1, 1) := by decide +kernel
theorem dX0_moveParents_29 : decode cX0_moveParents 29 = .ok (.iload_n 2, 1) := by decide +kernel
theorem dX0_moveParents_30 : decode cX0_moveParents 30 = .ok (.invokevirtual 198, 3) := by decide +kernel
theorem dX0_moveParents_33 : decode cX0_moveParents 33 = .ok (.istore_n 3, 1) := by decide +kernel
theorem dX0_moveParents_34 : decode cX0_moveParents 34 = .ok (.aload_n 0, 1) := by decide +kernel
theorem dX0_moveParents_35 : decode cX0_moveParents 35 = .ok (.getfield 48, 3) := by decide +kernel
theorem dX0_moveParents_38 : decode cX0_moveParents 38 = .ok (.aload_n 0, 1) := by decide +kernel
theorem dX0_moveParents_39 : decode cX0_moveParents 39 = .ok (.getfield 36, 3) := by decide +kernel
theorem dX0_moveParents_42 : decode cX0_moveParents 42 = .ok (.iload_n 2, 1) := by decide +kernel
theorem dX0_moveParents_43 : decode cX0_moveParents 43 = .ok (.iaload, 1) := by decide +kernel
theorem dX0_moveParents_44 : decode cX0_moveParents 44 = .ok (.iload_n 3, 1) := by decide +kernel
theorem dX0_moveParents_45 : decode cX0_moveParents 45 = .ok (.iconst (-1), 1) := by decide +kernel
theorem dX0_moveParents_46 : decode cX0_moveParents 46 = .ok (.if_icmp .ne 7, 3) := by decide +kernel
theorem dX0_moveParents_49 : decode cX0_moveParents 49 = .ok (.iconst (-1), 1) := by decide +kernel
theorem dX0_moveParents_50 : decode cX0_moveParents 50 = .ok (.goto 9, 3) := by decide +kernel
theorem dX0_moveParents_53 : decode cX0_moveParents 53 = .ok (.aload_n 0, 1) := by decide +kernel
theorem dX0_moveParents_54 : decode cX0_moveParents 54 = .ok (.getfield 36, 3) := by decide +kernel
theorem dX0_moveParents_57 : decode cX0_moveParents 57 = .ok (.iload_n 3, 1) := by decide +kernel
theorem dX0_moveParents_58 : decode cX0_moveParents 58 = .ok (.iaload, 1) := by decide +kernel
theorem dX0_moveParents_59 : decode cX0_moveParents 59 = .ok (.iastore, 1) := by decide +kernel
theorem dX0_moveParents_60 : decode cX0_moveParents 60 = .ok (.iinc 2 1, 3) := by decide +kernel
theorem dX0_moveParents_63 : decode cX0_moveParents 63 = .ok (.goto (-53), 3) := by decide +kernel
theorem dX0_moveParents_66 : decode cX0_moveParents 66 = .ok (.aload_n 0, 1) := by decide +kernel
theorem dX0_moveParents_67 : decode cX0_moveParents 67 = .ok (.getfield 48, 3) := by decide +kernel
theorem dX0_moveParents_70 : decode cX0_moveParents 70 = .ok (.iconst 0, 1) := by decide +kernel
theorem dX0_moveParents_71 : decode cX0_moveParents 71 = .ok (.aload_n 0, 1) := by decide +kernel
theorem dX0_moveParents_72 : decode cX0_moveParents 72 = .ok (.getfield 21, 3) := by decide +kernel
theorem dX0_moveParents_75 : decode cX0_moveParents 75 = .ok (.iload_n 1, 1) := by decide +kernel
theorem dX0_moveParents_76 : decode cX0_moveParents 76 = .ok (.bipush 14, 2) := by decide +kernel
theorem dX0_moveParents_78 : decode cX0_moveParents 78 = .ok (.imul, 1) := by decide +kernel
theorem dX0_moveParents_79 : decode cX0_moveParents 79 = .ok (.bipush 14, 2) := by decide +kernel
theorem dX0_moveParents_81 : decode cX0_moveParents 81 = .ok (.invokestatic 192, 3) := by decide +kernel
theorem dX0_moveParents_84 : decode cX0_moveParents 84 = .ok (.return_, 1) := by decide +kernel
theorem dX0_nearestMatteringAbove_0 : decode cX0_nearestMatteringAbove 0 = .ok (.aload_n 0, 1) := by decide +kernel
theorem dX0_nearestMatteringAbove_1 : decode cX0_nearestMatteringAbove 1 = .ok (.iload_n 1, 1) := by decide +kernel
theorem dX0_nearestMatteringAbove_2 : decode cX0_nearestMatteringAbove 2 = .ok (.iload_n 2, 1) := by decide +kernel
theorem dX0_nearestMatteringAbove_3 : decode cX0_nearestMatteringAbove 3 = .ok (.invokevirtual 135, 3) := by decide +kernel
theorem dX0_nearestMatteringAbove_6 : decode cX0_nearestMatteringAbove 6 = .ok (.istore_n 3, 1) := by decide +kernel
theorem dX0_nearestMatteringAbove_7 : decode cX0_nearestMatteringAbove 7 = .ok (.iconst 0, 1) := by decide +kernel
theorem dX0_nearestMatteringAbove_8 : decode cX0_nearestMatteringAbove 8 = .ok (.istore 4, 2) := by decide +kernel
theorem dX0_nearestMatteringAbove_10 : decode cX0_nearestMatteringAbove 10 = .ok (.iload 4, 2) := by decide +kernel
theorem dX0_nearestMatteringAbove_12 : decode cX0_nearestMatteringAbove 12 = .ok (.bipush 14, 2) := by decide +kernel
theorem dX0_nearestMatteringAbove_14 : decode cX0_nearestMatteringAbove 14 = .ok (.if_icmp .ge 30, 3) := by decide +kernel
theorem dX0_nearestMatteringAbove_17 : decode cX0_nearestMatteringAbove 17 = .ok (.iload_n 3, 1) := by decide +kernel
theorem dX0_nearestMatteringAbove_18 : decode cX0_nearestMatteringAbove 18 = .ok (.iconst (-1), 1) := by decide +kernel
theorem dX0_nearestMatteringAbove_19 : decode cX0_nearestMatteringAbove 19 = .ok (.if_icmp .eq 25, 3) := by decide +kernel
theorem dX0_nearestMatteringAbove_22 : decode cX0_nearestMatteringAbove 22 = .ok (.aload_n 0, 1) := by decide +kernel
theorem dX0_nearestMatteringAbove_23 : decode cX0_nearestMatteringAbove 23 = .ok (.iload_n 1, 1) := by decide +kernel
theorem dX0_nearestMatteringAbove_24 : decode cX0_nearestMatteringAbove 24 = .ok (.iload_n 3, 1) := by decide +kernel
theorem dX0_nearestMatteringAbove_25 : decode cX0_nearestMatteringAbove 25 = .ok (.invokevirtual 186, 3) := by decide +kernel
theorem dX0_nearestMatteringAbove_28 : decode cX0_nearestMatteringAbove 28 = .ok (.ifCond .ne 16, 3) := by decide +kernel
theorem dX0_nearestMatteringAbove_31 : decode cX0_nearestMatteringAbove 31 = .ok (.aload_n 0, 1) := by decide +kernel
theorem dX0_nearestMatteringAbove_32 : decode cX0_nearestMatteringAbove 32 = .ok (.iload_n 1, 1) := by decide +kernel
theorem dX0_nearestMatteringAbove_33 : decode cX0_nearestMatteringAbove 33 = .ok (.iload_n 3, 1) := by decide +kernel
theorem dX0_nearestMatteringAbove_34 : decode cX0_nearestMatteringAbove 34 = .ok (.invokevirtual 135, 3) := by decide +kernel
theorem dX0_nearestMatteringAbove_37 : decode cX0_nearestMatteringAbove 37 = .ok (.istore_n 3, 1) := by decide +kernel
theorem dX0_nearestMatteringAbove_38 : decode cX0_nearestMatteringAbove 38 = .ok (.iinc 4 1, 3) := by decide +kernel
theorem dX0_nearestMatteringAbove_41 : decode cX0_nearestMatteringAbove 41 = .ok (.goto (-31), 3) := by decide +kernel
theorem dX0_nearestMatteringAbove_44 : decode cX0_nearestMatteringAbove 44 = .ok (.iload_n 3, 1) := by decide +kernel
theorem dX0_nearestMatteringAbove_45 : decode cX0_nearestMatteringAbove 45 = .ok (.ireturn, 1) := by decide +kernel
theorem dX0_moveNodes_0 : decode cX0_moveNodes 0 = .ok (.iconst 0, 1) := by decide +kernel
theorem dX0_moveNodes_1 : decode cX0_moveNodes 1 = .ok (.istore_n 1, 1) := by decide +kernel
theorem dX0_moveNodes_2 : decode cX0_moveNodes 2 = .ok (.iload_n 1, 1) := by decide +kernel
theorem dX0_moveNodes_3 : decode cX0_moveNodes 3 = .ok (.aload_n 0, 1) := by decide +kernel
theorem dX0_moveNodes_4 : decode cX0_moveNodes 4 = .ok (.getfield 7, 3) := by decide +kernel
theorem dX0_moveNodes_7 : decode cX0_moveNodes 7 = .ok (.if_icmp .ge 45, 3) := by decide +kernel
theorem dX0_moveNodes_10 : decode cX0_moveNodes 10 = .ok (.aload_n 0, 1) := by decide +kernel
theorem dX0_moveNodes_11 : decode cX0_moveNodes 11 = .ok (.getfield 36, 3) := by decide +kernel
theorem dX0_moveNodes_14 : decode cX0_moveNodes 14 = .ok (.iload_n 1, 1) := by decide +kernel
theorem dX0_moveNodes_15 : decode cX0_moveNodes 15 = .ok (.iaload, 1) := by decide +kernel
theorem dX0_moveNodes_16 : decode cX0_moveNodes 16 = .ok (.istore_n 2, 1) := by decide +kernel
theorem dX0_moveNodes_17 : decode cX0_moveNodes 17 = .ok (.iload_n 2, 1) := by decide +kernel
theorem dX0_moveNodes_18 : decode cX0_moveNodes 18 = .ok (.iconst (-1), 1) := by decide +kernel
theorem dX0_moveNodes_19 : decode cX0_moveNodes 19 = .ok (.if_icmp .eq 27, 3) := by decide +kernel
theorem dX0_moveNodes_22 : decode cX0_moveNodes 22 = .ok (.aload_n 0, 1) := by decide +kernel
theorem dX0_moveNodes_23 : decode cX0_moveNodes 23 = .ok (.getfield 13, 3) := by decide +kernel
theorem dX0_moveNodes_26 : decode cX0_moveNodes 26 = .ok (.iload_n 2, 1) := by decide +kernel
theorem dX0_moveNodes_27 : decode cX0_moveNodes 27 = .ok (.aload_n 0, 1) := by decide +kernel
theorem dX0_moveNodes_28 : decode cX0_moveNodes 28 = .ok (.getfield 13, 3) := by decide +kernel
theorem dX0_moveNodes_31 : decode cX0_moveNodes 31 = .ok (.iload_n 1, 1) := by decide +kernel
theorem dX0_moveNodes_32 : decode cX0_moveNodes 32 = .ok (.iaload, 1) := by decide +kernel
theorem dX0_moveNodes_33 : decode cX0_moveNodes 33 = .ok (.iastore, 1) := by decide +kernel
theorem dX0_moveNodes_34 : decode cX0_moveNodes 34 = .ok (.aload_n 0, 1) := by decide +kernel
theorem dX0_moveNodes_35 : decode cX0_moveNodes 35 = .ok (.getfield 17, 3) := by decide +kernel
theorem dX0_moveNodes_38 : decode cX0_moveNodes 38 = .ok (.iload_n 2, 1) := by decide +kernel
theorem dX0_moveNodes_39 : decode cX0_moveNodes 39 = .ok (.aload_n 0, 1) := by decide +kernel
theorem dX0_moveNodes_40 : decode cX0_moveNodes 40 = .ok (.getfield 17, 3) := by decide +kernel
theorem dX0_moveNodes_43 : decode cX0_moveNodes 43 = .ok (.iload_n 1, 1) := by decide +kernel
theorem dX0_moveNodes_44 : decode cX0_moveNodes 44 = .ok (.baload, 1) := by decide +kernel
theorem dX0_moveNodes_45 : decode cX0_moveNodes 45 = .ok (.bastore, 1) := by decide +kernel
theorem dX0_moveNodes_46 : decode cX0_moveNodes 46 = .ok (.iinc 1 1, 3) := by decide +kernel
theorem dX0_moveNodes_49 : decode cX0_moveNodes 49 = .ok (.goto (-47), 3) := by decide +kernel
theorem dX0_moveNodes_52 : decode cX0_moveNodes 52 = .ok (.return_, 1) := by decide +kernel
theorem dX0_became_0 : decode cX0_became 0 = .ok (.iload_n 1, 1) := by decide +kernel
theorem dX0_became_1 : decode cX0_became 1 = .ok (.ifCond .lt 9, 3) := by decide +kernel
theorem dX0_became_4 : decode cX0_became 4 = .ok (.iload_n 1, 1) := by decide +kernel
theorem dX0_became_5 : decode cX0_became 5 = .ok (.bipush 14, 2) := by decide +kernel
theorem dX0_became_7 : decode cX0_became 7 = .ok (.if_icmp .lt 5, 3) := by decide +kernel
theorem dX0_became_10 : decode cX0_became 10 = .ok (.iconst (-1), 1) := by decide +kernel
theorem dX0_became_11 : decode cX0_became 11 = .ok (.ireturn, 1) := by decide +kernel
theorem dX0_became_12 : decode cX0_became 12 = .ok (.aload_n 0, 1) := by decide +kernel
theorem dX0_became_13 : decode cX0_became 13 = .ok (.getfield 36, 3) := by decide +kernel
theorem dX0_became_16 : decode cX0_became 16 = .ok (.iload_n 1, 1) := by decide +kernel
theorem dX0_became_17 : decode cX0_became 17 = .ok (.iaload, 1) := by decide +kernel
theorem dX0_became_18 : decode cX0_became 18 = .ok (.ireturn, 1) := by decide +kernel
theorem dX0_node_0 : decode cX0_node 0 = .ok (.iload_n 1, 1) := by decide +kernel
theorem dX0_node_1 : decode cX0_node 1 = .ok (.ifCond .lt 10, 3) := by decide +kernel
theorem dX0_node_4 : decode cX0_node 4 = .ok (.iload_n 1, 1) := by decide +kernel
theorem dX0_node_5 : decode cX0_node 5 = .ok (.sipush 1000, 3) := by decide +kernel
theorem dX0_node_8 : decode cX0_node 8 = .ok (.if_icmp .le 13, 3) := by decide +kernel
theorem dX0_node_11 : decode cX0_node 11 = .ok (.new 57, 3) := by decide +kernel
theorem dX0_node_14 : decode cX0_node 14 = .ok (.dup, 1) := by decide +kernel
theorem dX0_node_15 : decode cX0_node 15 = .ok (.ldc 59, 2) := by decide +kernel
theorem dX0_node_17 : decode cX0_node 17 = .ok (.invokespecial 61, 3) := by decide +kernel
theorem dX0_node_20 : decode cX0_node 20 = .ok (.athrow, 1) := by decide +kernel
theorem dX0_node_21 : decode cX0_node 21 = .ok (.aload_n 0, 1) := by decide +kernel
theorem dX0_node_22 : decode cX0_node 22 = .ok (.getfield 7, 3) := by decide +kernel
theorem dX0_node_25 : decode cX0_node 25 = .ok (.bipush 14, 2) := by decide +kernel
theorem dX0_node_27 : decode cX0_node 27 = .ok (.if_icmp .lt 13, 3) := by decide +kernel
theorem dX0_node_30 : decode cX0_node 30 = .ok (.new 64, 3) := by decide +kernel
theorem dX0_node_33 : decode cX0_node 33 = .ok (.dup, 1) := by decide +kernel
theorem dX0_node_34 : decode cX0_node 34 = .ok (.ldc 66, 2) := by decide +kernel
theorem dX0_node_36 : decode cX0_node 36 = .ok (.invokespecial 68, 3) := by decide +kernel
theorem dX0_node_39 : decode cX0_node 39 = .ok (.athrow, 1) := by decide +kernel
theorem dX0_node_40 : decode cX0_node 40 = .ok (.aload_n 0, 1) := by decide +kernel
theorem dX0_node_41 : decode cX0_node 41 = .ok (.getfield 13, 3) := by decide +kernel
theorem dX0_node_44 : decode cX0_node 44 = .ok (.aload_n 0, 1) := by decide +kernel
theorem dX0_node_45 : decode cX0_node 45 = .ok (.getfield 7, 3) := by decide +kernel
theorem dX0_node_48 : decode cX0_node 48 = .ok (.iload_n 1, 1) := by decide +kernel
theorem dX0_node_49 : decode cX0_node 49 = .ok (.iastore, 1) := by decide +kernel
theorem dX0_node_50 : decode cX0_node 50 = .ok (.aload_n 0, 1) := by decide +kernel
theorem dX0_node_51 : decode cX0_node 51 = .ok (.getfield 17, 3) := by decide +kernel
theorem dX0_node_54 : decode cX0_node 54 = .ok (.aload_n 0, 1) := by decide +kernel
theorem dX0_node_55 : decode cX0_node 55 = .ok (.getfield 7, 3) := by decide +kernel
theorem dX0_node_58 : decode cX0_node 58 = .ok (.iload_n 2, 1) := by decide +kernel
theorem dX0_node_59 : decode cX0_node 59 = .ok (.bastore, 1) := by decide +kernel
theorem dX0_node_60 : decode cX0_node 60 = .ok (.aload_n 0, 1) := by decide +kernel
theorem dX0_node_61 : decode cX0_node 61 = .ok (.dup, 1) := by decide +kernel
theorem dX0_node_62 : decode cX0_node 62 = .ok (.getfield 7, 3) := by decide +kernel
theorem dX0_node_65 : decode cX0_node 65 = .ok (.iconst 1, 1) := by decide +kernel
theorem dX0_node_66 : decode cX0_node 66 = .ok (.iadd, 1) := by decide +kernel
theorem dX0_node_67 : decode cX0_node 67 = .ok (.putfield 7, 3) := by decide +kernel
theorem dX0_node_70 : decode cX0_node 70 = .ok (.aload_n 0, 1) := by decide +kernel
theorem dX0_node_71 : decode cX0_node 71 = .ok (.getfield 7, 3) := by decide +kernel
theorem dX0_node_74 : decode cX0_node 74 = .ok (.iconst 1, 1) := by decide +kernel
theorem dX0_node_75 : decode cX0_node 75 = .ok (.isub, 1) := by decide +kernel
theorem dX0_node_76 : decode cX0_node 76 = .ok (.ireturn, 1) := by decide +kernel
theorem dX0_join_0 : decode cX0_join 0 = .ok (.iload_n 1, 1) := by decide +kernel
theorem dX0_join_1 : decode cX0_join 1 = .ok (.iload_n 2, 1) := by decide +kernel
theorem dX0_join_2 : decode cX0_join 2 = .ok (.invokestatic 69, 3) := by decide +kernel
theorem dX0_join_5 : decode cX0_join 5 = .ok (.ifCond .eq 20, 3) := by decide +kernel
theorem dX0_join_8 : decode cX0_join 8 = .ok (.aload_n 0, 1) := by decide +kernel
theorem dX0_join_9 : decode cX0_join 9 = .ok (.iload_n 3, 1) := by decide +kernel
theorem dX0_join_10 : decode cX0_join 10 = .ok (.invokevirtual 73, 3) := by decide +kernel
theorem dX0_join_13 : decode cX0_join 13 = .ok (.ifCond .eq 12, 3) := by decide +kernel
theorem dX0_join_16 : decode cX0_join 16 = .ok (.aload_n 0, 1) := by decide +kernel
theorem dX0_join_17 : decode cX0_join 17 = .ok (.iload 4, 2) := by decide +kernel
theorem dX0_join_19 : decode cX0_join 19 = .ok (.invokevirtual 73, 3) := by decide +kernel
theorem dX0_join_22 : decode cX0_join 22 = .ok (.ifCond .ne 13, 3) := by decide +kernel
theorem dX0_join_25 : decode cX0_join 25 = .ok (.new 77, 3) := by decide +kernel
theorem dX0_join_28 : decode cX0_join 28 = .ok (.dup, 1) := by decide +kernel
theorem dX0_join_29 : decode cX0_join 29 = .ok (.ldc 79, 2) := by decide +kernel
theorem dX0_join_31 : decode cX0_join 31 = .ok (.invokespecial 81, 3) := by decide +kernel
theorem dX0_join_34 : decode cX0_join 34 = .ok (.athrow, 1) := by decide +kernel
theorem dX0_join_35 : decode cX0_join 35 = .ok (.aload_n 0, 1) := by decide +kernel
theorem dX0_join_36 : decode cX0_join 36 = .ok (.getfield 13, 3) := by decide +kernel
theorem dX0_join_39 : decode cX0_join 39 = .ok (.iload_n 3, 1) := by decide +kernel
theorem dX0_join_40 : decode cX0_join 40 = .ok (.iaload, 1) := by decide +kernel
theorem dX0_join_41 : decode cX0_join 41 = .ok (.aload_n 0, 1) := by decide +kernel
theorem dX0_join_42 : decode cX0_join 42 = .ok (.getfield 13, 3) := by decide +kernel
theorem dX0_join_45 : decode cX0_join 45 = .ok (.iload 4, 2) := by decide +kernel
theorem dX0_join_47 : decode cX0_join 47 = .ok (.iaload, 1) := by decide +kernel
theorem dX0_join_48 : decode cX0_join 48 = .ok (.if_icmp .gt 13, 3) := by decide +kernel
theorem dX0_join_51 : decode cX0_join 51 = .ok (.new 57, 3) := by decide +kernel
theorem dX0_join_54 : decode cX0_join 54 = .ok (.dup, 1) := by decide +kernel
theorem dX0_join_55 : decode cX0_join 55 = .ok (.ldc 82, 2) := by decide +kernel
theorem dX0_join_57 : decode cX0_join 57 = .ok (.invokespecial 61, 3) := by decide +kernel
theorem dX0_join_60 : decode cX0_join 60 = .ok (.athrow, 1) := by decide +kernel
theorem dX0_join_61 : decode cX0_join 61 = .ok (.aload_n 0, 1) := by decide +kernel
theorem dX0_join_62 : decode cX0_join 62 = .ok (.iload_n 1, 1) := by decide +kernel
theorem dX0_join_63 : decode cX0_join 63 = .ok (.iload_n 2, 1) := by decide +kernel
theorem dX0_join_64 : decode cX0_join 64 = .ok (.iload_n 3, 1) := by decide +kernel
theorem dX0_join_65 : decode cX0_join 65 = .ok (.iload 4, 2) := by decide +kernel
theorem dX0_join_67 : decode cX0_join 67 = .ok (.invokevirtual 84, 3) := by decide +kernel
theorem dX0_join_70 : decode cX0_join 70 = .ok (.ifCond .eq 13, 3) := by decide +kernel
theorem dX0_join_73 : decode cX0_join 73 = .ok (.new 64, 3) := by decide +kernel
theorem dX0_join_76 : decode cX0_join 76 = .ok (.dup, 1) := by decide +kernel
theorem dX0_join_77 : decode cX0_join 77 = .ok (.ldc 88, 2) := by decide +kernel
theorem dX0_join_79 : decode cX0_join 79 = .ok (.invokespecial 68, 3) := by decide +kernel
theorem dX0_join_82 : decode cX0_join 82 = .ok (.athrow, 1) := by decide +kernel
theorem dX0_join_83 : decode cX0_join 83 = .ok (.aload_n 0, 1) := by decide +kernel
theorem dX0_join_84 : decode cX0_join 84 = .ok (.iload_n 1, 1) := by decide +kernel
theorem dX0_join_85 : decode cX0_join 85 = .ok (.iload_n 2, 1) := by decide +kernel
theorem dX0_join_86 : decode cX0_join 86 = .ok (.iload 4, 2) := by decide +kernel
theorem dX0_join_88 : decode cX0_join 88 = .ok (.iload_n 3, 1) := by decide +kernel
theorem dX0_join_89 : decode cX0_join 89 = .ok (.invokevirtual 90, 3) := by decide +kernel
theorem dX0_join_92 : decode cX0_join 92 = .ok (.ireturn, 1) := by decide +kernel
theorem dX0_isRun_0 : decode cX0_isRun 0 = .ok (.iload_n 0, 1) := by decide +kernel
theorem dX0_isRun_1 : decode cX0_isRun 1 = .ok (.ifCond .lt 18, 3) := by decide +kernel
theorem dX0_isRun_4 : decode cX0_isRun 4 = .ok (.iload_n 0, 1) := by decide +kernel
theorem dX0_isRun_5 : decode cX0_isRun 5 = .ok (.iload_n 1, 1) := by decide +kernel
theorem dX0_isRun_6 : decode cX0_isRun 6 = .ok (.if_icmp .ge 13, 3) := by decide +kernel
theorem dX0_isRun_9 : decode cX0_isRun 9 = .ok (.iload_n 1, 1) := by decide +kernel
theorem dX0_isRun_10 : decode cX0_isRun 10 = .ok (.bipush 60, 2) := by decide +kernel
theorem dX0_isRun_12 : decode cX0_isRun 12 = .ok (.if_icmp .gt 7, 3) := by decide +kernel
theorem dX0_isRun_15 : decode cX0_isRun 15 = .ok (.iconst 1, 1) := by decide +kernel
theorem dX0_isRun_16 : decode cX0_isRun 16 = .ok (.goto 4, 3) := by decide +kernel
theorem dX0_isRun_19 : decode cX0_isRun 19 = .ok (.iconst 0, 1) := by decide +kernel
theorem dX0_isRun_20 : decode cX0_isRun 20 = .ok (.ireturn, 1) := by decide +kernel
theorem dX0_isNode_0 : decode cX0_isNode 0 = .ok (.iload_n 1, 1) := by decide +kernel
theorem dX0_isNode_1 : decode cX0_isNode 1 = .ok (.ifCond .lt 15, 3) := by decide +kernel
theorem dX0_isNode_4 : decode cX0_isNode 4 = .ok (.iload_n 1, 1) := by decide +kernel
theorem dX0_isNode_5 : decode cX0_isNode 5 = .ok (.aload_n 0, 1) := by decide +kernel
theorem dX0_isNode_6 : decode cX0_isNode 6 = .ok (.getfield 7, 3) := by decide +kernel
theorem dX0_isNode_9 : decode cX0_isNode 9 = .ok (.if_icmp .ge 7, 3) := by decide +kernel
theorem dX0_isNode_12 : decode cX0_isNode 12 = .ok (.iconst 1, 1) := by decide +kernel
theorem dX0_isNode_13 : decode cX0_isNode 13 = .ok (.goto 4, 3) := by decide +kernel
theorem dX0_isNode_16 : decode cX0_isNode 16 = .ok (.iconst 0, 1) := by decide +kernel
theorem dX0_isNode_17 : decode cX0_isNode 17 = .ok (.ireturn, 1) := by decide +kernel
theorem dX0_hasParentBeside_0 : decode cX0_hasParentBeside 0 = .ok (.iload_n 1, 1) := by decide +kernel
theorem dX0_hasParentBeside_1 : decode cX0_hasParentBeside 1 = .ok (.istore 5, 2) := by decide +kernel
theorem dX0_hasParentBeside_3 : decode cX0_hasParentBeside 3 = .ok (.iload 5, 2) := by decide +kernel
theorem dX0_hasParentBeside_5 : decode cX0_hasParentBeside 5 = .ok (.iload_n 2, 1) := by decide +kernel
theorem dX0_hasParentBeside_6 : decode cX0_hasParentBeside 6 = .ok (.if_icmp .ge 33, 3) := by decide +kernel
theorem dX0_hasParentBeside_9 : decode cX0_hasParentBeside 9 = .ok (.aload_n 0, 1) := by decide +kernel
theorem dX0_hasParentBeside_10 : decode cX0_hasParentBeside 10 = .ok (.iload 5, 2) := by decide +kernel
theorem dX0_hasParentBeside_12 : decode cX0_hasParentBeside 12 = .ok (.iload 4, 2) := by decide +kernel
theorem dX0_hasParentBeside_14 : decode cX0_hasParentBeside 14 = .ok (.invokevirtual 135, 3) := by decide +kernel
theorem dX0_hasParentBeside_17 : decode cX0_hasParentBeside 17 = .ok (.istore 6, 2) := by decide +kernel
theorem dX0_hasParentBeside_19 : decode cX0_hasParentBeside 19 = .ok (.iload 6, 2) := by decide +kernel
theorem dX0_hasParentBeside_21 : decode cX0_hasParentBeside 21 = .ok (.iconst (-1), 1) := by decide +kernel
theorem dX0_hasParentBeside_22 : decode cX0_hasParentBeside 22 = .ok (.if_icmp .eq 11, 3) := by decide +kernel
theorem dX0_hasParentBeside_25 : decode cX0_hasParentBeside 25 = .ok (.iload 6, 2) := by decide +kernel
theorem dX0_hasParentBeside_27 : decode cX0_hasParentBeside 27 = .ok (.iload_n 3, 1) := by decide +kernel
theorem dX0_hasParentBeside_28 : decode cX0_hasParentBeside 28 = .ok (.if_icmp .eq 5, 3) := by decide +kernel
theorem dX0_hasParentBeside_31 : decode cX0_hasParentBeside 31 = .ok (.iconst 1, 1) := by decide +kernel
theorem dX0_hasParentBeside_32 : decode cX0_hasParentBeside 32 = .ok (.ireturn, 1) := by decide +kernel
theorem dX0_hasParentBeside_33 : decode cX0_hasParentBeside 33 = .ok (.iinc 5 1, 3) := by decide +kernel
theorem dX0_hasParentBeside_36 : decode cX0_hasParentBeside 36 = .ok (.goto (-33), 3) := by decide +kernel
theorem dX0_hasParentBeside_39 : decode cX0_hasParentBeside 39 = .ok (.iconst 0, 1) := by decide +kernel
theorem dX0_hasParentBeside_40 : decode cX0_hasParentBeside 40 = .ok (.ireturn, 1) := by decide +kernel
theorem dX0_setParents_0 : decode cX0_setParents 0 = .ok (.iconst 0, 1) := by decide +kernel
theorem dX0_setParents_1 : decode cX0_setParents 1 = .ok (.istore 5, 2) := by decide +kernel
theorem dX0_setParents_3 : decode cX0_setParents 3 = .ok (.iload_n 1, 1) := by decide +kernel
theorem dX0_setParents_4 : decode cX0_setParents 4 = .ok (.istore 6, 2) := by decide +kernel
theorem dX0_setParents_6 : decode cX0_setParents 6 = .ok (.iload 6, 2) := by decide +kernel
theorem dX0_setParents_8 : decode cX0_setParents 8 = .ok (.iload_n 2, 1) := by decide +kernel
theorem dX0_setParents_9 : decode cX0_setParents 9 = .ok (.if_icmp .ge 38, 3) := by decide +kernel
theorem dX0_setParents_12 : decode cX0_setParents 12 = .ok (.aload_n 0, 1) := by decide +kernel
theorem dX0_setParents_13 : decode cX0_setParents 13 = .ok (.iload 6, 2) := by decide +kernel
theorem dX0_setParents_15 : decode cX0_setParents 15 = .ok (.iload_n 3, 1) := by decide +kernel
theorem dX0_setParents_16 : decode cX0_setParents 16 = .ok (.invokevirtual 135, 3) := by decide +kernel
theorem dX0_setParents_19 : decode cX0_setParents 19 = .ok (.iload 4, 2) := by decide +kernel
theorem dX0_setParents_21 : decode cX0_setParents 21 = .ok (.if_icmp .eq 20, 3) := by decide +kernel
theorem dX0_setParents_24 : decode cX0_setParents 24 = .ok (.aload_n 0, 1) := by decide +kernel
theorem dX0_setParents_25 : decode cX0_setParents 25 = .ok (.getfield 21, 3) := by decide +kernel
theorem dX0_setParents_28 : decode cX0_setParents 28 = .ok (.iload 6, 2) := by decide +kernel
theorem dX0_setParents_30 : decode cX0_setParents 30 = .ok (.bipush 14, 2) := by decide +kernel
theorem dX0_setParents_32 : decode cX0_setParents 32 = .ok (.imul, 1) := by decide +kernel
theorem dX0_setParents_33 : decode cX0_setParents 33 = .ok (.iload_n 3, 1) := by decide +kernel
theorem dX0_setParents_34 : decode cX0_setParents 34 = .ok (.iadd, 1) := by decide +kernel
theorem dX0_setParents_35 : decode cX0_setParents 35 = .ok (.iload 4, 2) := by decide +kernel
theorem dX0_setParents_37 : decode cX0_setParents 37 = .ok (.iastore, 1) := by decide +kernel
theorem dX0_setParents_38 : decode cX0_setParents 38 = .ok (.iinc 5 1, 3) := by decide +kernel
theorem dX0_setParents_41 : decode cX0_setParents 41 = .ok (.iinc 6 1, 3) := by decide +kernel
theorem dX0_setParents_44 : decode cX0_setParents 44 = .ok (.goto (-38), 3) := by decide +kernel
theorem dX0_setParents_47 : decode cX0_setParents 47 = .ok (.iload 5, 2) := by decide +kernel
theorem dX0_setParents_49 : decode cX0_setParents 49 = .ok (.ireturn, 1) := by decide +kernel
theorem dX0_part_0 : decode cX0_part 0 = .ok (.iload_n 1, 1) := by decide +kernel
theorem dX0_part_1 : decode cX0_part 1 = .ok (.iload_n 2, 1) := by decide +kernel
theorem dX0_part_2 : decode cX0_part 2 = .ok (.invokestatic 69, 3) := by decide +kernel
theorem dX0_part_5 : decode cX0_part 5 = .ok (.ifCond .eq 11, 3) := by decide +kernel
theorem dX0_part_8 : decode cX0_part 8 = .ok (.aload_n 0, 1) := by decide +kernel
theorem dX0_part_9 : decode cX0_part 9 = .ok (.iload_n 3, 1) := by decide +kernel
theorem dX0_part_10 : decode cX0_part 10 = .ok (.invokevirtual 73, 3) := by decide +kernel
theorem dX0_part_13 : decode cX0_part 13 = .ok (.ifCond .ne 13, 3) := by decide +kernel
theorem dX0_part_16 : decode cX0_part 16 = .ok (.new 77, 3) := by decide +kernel
theorem dX0_part_19 : decode cX0_part 19 = .ok (.dup, 1) := by decide +kernel
theorem dX0_part_20 : decode cX0_part 20 = .ok (.ldc 79, 2) := by decide +kernel
theorem dX0_part_22 : decode cX0_part 22 = .ok (.invokespecial 81, 3) := by decide +kernel
theorem dX0_part_25 : decode cX0_part 25 = .ok (.athrow, 1) := by decide +kernel
theorem dX0_part_26 : decode cX0_part 26 = .ok (.aload_n 0, 1) := by decide +kernel
theorem dX0_part_27 : decode cX0_part 27 = .ok (.iload_n 1, 1) := by decide +kernel
theorem dX0_part_28 : decode cX0_part 28 = .ok (.iload_n 2, 1) := by decide +kernel
theorem dX0_part_29 : decode cX0_part 29 = .ok (.iload_n 3, 1) := by decide +kernel
theorem dX0_part_30 : decode cX0_part 30 = .ok (.iconst (-1), 1) := by decide +kernel
theorem dX0_part_31 : decode cX0_part 31 = .ok (.invokevirtual 90, 3) := by decide +kernel
theorem dX0_part_34 : decode cX0_part 34 = .ok (.ireturn, 1) := by decide +kernel
theorem dX0_site_0 : decode cX0_site 0 = .ok (.iload_n 1, 1) := by decide +kernel
theorem dX0_site_1 : decode cX0_site 1 = .ok (.invokestatic 94, 3) := by decide +kernel
theorem dX0_site_4 : decode cX0_site 4 = .ok (.ifCond .ne 13, 3) := by decide +kernel
theorem dX0_site_7 : decode cX0_site 7 = .ok (.new 77, 3) := by decide +kernel
theorem dX0_site_10 : decode cX0_site 10 = .ok (.dup, 1) := by decide +kernel
theorem dX0_site_11 : decode cX0_site 11 = .ok (.ldc 97, 2) := by decide +kernel
theorem dX0_site_13 : decode cX0_site 13 = .ok (.invokespecial 81, 3) := by decide +kernel
theorem dX0_site_16 : decode cX0_site 16 = .ok (.athrow, 1) := by decide +kernel
theorem dX0_site_17 : decode cX0_site 17 = .ok (.iload_n 2, 1) := by decide +kernel
theorem dX0_site_18 : decode cX0_site 18 = .ok (.ifCond .lt 16, 3) := by decide +kernel
theorem dX0_site_21 : decode cX0_site 21 = .ok (.iload_n 2, 1) := by decide +kernel
theorem dX0_site_22 : decode cX0_site 22 = .ok (.iconst 4, 1) := by decide +kernel
theorem dX0_site_23 : decode cX0_site 23 = .ok (.if_icmp .ge 11, 3) := by decide +kernel
theorem dX0_site_26 : decode cX0_site 26 = .ok (.aload_n 0, 1) := by decide +kernel
theorem dX0_site_27 : decode cX0_site 27 = .ok (.iload_n 1, 1) := by decide +kernel
theorem dX0_site_28 : decode cX0_site 28 = .ok (.invokevirtual 99, 3) := by decide +kernel
theorem dX0_site_31 : decode cX0_site 31 = .ok (.ifCond .eq 13, 3) := by decide +kernel
theorem dX0_site_34 : decode cX0_site 34 = .ok (.new 57, 3) := by decide +kernel
theorem dX0_site_37 : decode cX0_site 37 = .ok (.dup, 1) := by decide +kernel
theorem dX0_site_38 : decode cX0_site 38 = .ok (.ldc 102, 2) := by decide +kernel
theorem dX0_site_40 : decode cX0_site 40 = .ok (.invokespecial 61, 3) := by decide +kernel
theorem dX0_site_43 : decode cX0_site 43 = .ok (.athrow, 1) := by decide +kernel
theorem dX0_site_44 : decode cX0_site 44 = .ok (.aload_n 0, 1) := by decide +kernel
theorem dX0_site_45 : decode cX0_site 45 = .ok (.getfield 24, 3) := by decide +kernel
theorem dX0_site_48 : decode cX0_site 48 = .ok (.bipush 8, 2) := by decide +kernel
theorem dX0_site_50 : decode cX0_site 50 = .ok (.if_icmp .lt 13, 3) := by decide +kernel
theorem dX0_site_53 : decode cX0_site 53 = .ok (.new 64, 3) := by decide +kernel
theorem dX0_site_56 : decode cX0_site 56 = .ok (.dup, 1) := by decide +kernel
theorem dX0_site_57 : decode cX0_site 57 = .ok (.ldc 104, 2) := by decide +kernel
theorem dX0_site_59 : decode cX0_site 59 = .ok (.invokespecial 68, 3) := by decide +kernel
theorem dX0_site_62 : decode cX0_site 62 = .ok (.athrow, 1) := by decide +kernel
theorem dX0_site_63 : decode cX0_site 63 = .ok (.aload_n 0, 1) := by decide +kernel
theorem dX0_site_64 : decode cX0_site 64 = .ok (.getfield 27, 3) := by decide +kernel
theorem dX0_site_67 : decode cX0_site 67 = .ok (.aload_n 0, 1) := by decide +kernel
theorem dX0_site_68 : decode cX0_site 68 = .ok (.getfield 24, 3) := by decide +kernel
theorem dX0_site_71 : decode cX0_site 71 = .ok (.iload_n 1, 1) := by decide +kernel
theorem dX0_site_72 : decode cX0_site 72 = .ok (.iastore, 1) := by decide +kernel
theorem dX0_site_73 : decode cX0_site 73 = .ok (.aload_n 0, 1) := by decide +kernel
theorem dX0_site_74 : decode cX0_site 74 = .ok (.getfield 30, 3) := by decide +kernel
theorem dX0_site_77 : decode cX0_site 77 = .ok (.aload_n 0, 1) := by decide +kernel
theorem dX0_site_78 : decode cX0_site 78 = .ok (.getfield 24, 3) := by decide +kernel
theorem dX0_site_81 : decode cX0_site 81 = .ok (.iload_n 2, 1) := by decide +kernel
theorem dX0_site_82 : decode cX0_site 82 = .ok (.iastore, 1) := by decide +kernel
theorem dX0_site_83 : decode cX0_site 83 = .ok (.aload_n 0, 1) := by decide +kernel
theorem dX0_site_84 : decode cX0_site 84 = .ok (.dup, 1) := by decide +kernel
theorem dX0_site_85 : decode cX0_site 85 = .ok (.getfield 24, 3) := by decide +kernel
theorem dX0_site_88 : decode cX0_site 88 = .ok (.iconst 1, 1) := by decide +kernel
theorem dX0_site_89 : decode cX0_site 89 = .ok (.iadd, 1) := by decide +kernel
theorem dX0_site_90 : decode cX0_site 90 = .ok (.putfield 24, 3) := by decide +kernel
theorem dX0_site_93 : decode cX0_site 93 = .ok (.aload_n 0, 1) := by decide +kernel
theorem dX0_site_94 : decode cX0_site 94 = .ok (.getfield 24, 3) := by decide +kernel
theorem dX0_site_97 : decode cX0_site 97 = .ok (.iconst 1, 1) := by decide +kernel
theorem dX0_site_98 : decode cX0_site 98 = .ok (.isub, 1) := by decide +kernel
theorem dX0_site_99 : decode cX0_site 99 = .ok (.ireturn, 1) := by decide +kernel
theorem dX0_isPlace_0 : decode cX0_isPlace 0 = .ok (.iload_n 0, 1) := by decide +kernel
theorem dX0_isPlace_1 : decode cX0_isPlace 1 = .ok (.ifCond .lt 13, 3) := by decide +kernel
theorem dX0_isPlace_4 : decode cX0_isPlace 4 = .ok (.iload_n 0, 1) := by decide +kernel
theorem dX0_isPlace_5 : decode cX0_isPlace 5 = .ok (.bipush 60, 2) := by decide +kernel
theorem dX0_isPlace_7 : decode cX0_isPlace 7 = .ok (.if_icmp .ge 7, 3) := by decide +kernel
theorem dX0_isPlace_10 : decode cX0_isPlace 10 = .ok (.iconst 1, 1) := by decide +kernel
theorem dX0_isPlace_11 : decode cX0_isPlace 11 = .ok (.goto 4, 3) := by decide +kernel
theorem dX0_isPlace_14 : decode cX0_isPlace 14 = .ok (.iconst 0, 1) := by decide +kernel
theorem dX0_isPlace_15 : decode cX0_isPlace 15 = .ok (.ireturn, 1) := by decide +kernel
theorem dX0_hasSite_0 : decode cX0_hasSite 0 = .ok (.iconst 0, 1) := by decide +kernel
theorem dX0_hasSite_1 : decode cX0_hasSite 1 = .ok (.istore_n 2, 1) := by decide +kernel
theorem dX0_hasSite_2 : decode cX0_hasSite 2 = .ok (.iload_n 2, 1) := by decide +kernel
theorem dX0_hasSite_3 : decode cX0_hasSite 3 = .ok (.aload_n 0, 1) := by decide +kernel
theorem dX0_hasSite_4 : decode cX0_hasSite 4 = .ok (.getfield 24, 3) := by decide +kernel
theorem dX0_hasSite_7 : decode cX0_hasSite 7 = .ok (.if_icmp .ge 21, 3) := by decide +kernel
theorem dX0_hasSite_10 : decode cX0_hasSite 10 = .ok (.aload_n 0, 1) := by decide +kernel
theorem dX0_hasSite_11 : decode cX0_hasSite 11 = .ok (.getfield 27, 3) := by decide +kernel
theorem dX0_hasSite_14 : decode cX0_hasSite 14 = .ok (.iload_n 2, 1) := by decide +kernel
theorem dX0_hasSite_15 : decode cX0_hasSite 15 = .ok (.iaload, 1) := by decide +kernel
theorem dX0_hasSite_16 : decode cX0_hasSite 16 = .ok (.iload_n 1, 1) := by decide +kernel
theorem dX0_hasSite_17 : decode cX0_hasSite 17 = .ok (.if_icmp .ne 5, 3) := by decide +kernel
theorem dX0_hasSite_20 : decode cX0_hasSite 20 = .ok (.iconst 1, 1) := by decide +kernel
theorem dX0_hasSite_21 : decode cX0_hasSite 21 = .ok (.ireturn, 1) := by decide +kernel
theorem dX0_hasSite_22 : decode cX0_hasSite 22 = .ok (.iinc 2 1, 3) := by decide +kernel
theorem dX0_hasSite_25 : decode cX0_hasSite 25 = .ok (.goto (-23), 3) := by decide +kernel
theorem dX0_hasSite_28 : decode cX0_hasSite 28 = .ok (.iconst 0, 1) := by decide +kernel
theorem dX0_hasSite_29 : decode cX0_hasSite 29 = .ok (.ireturn, 1) := by decide +kernel
theorem dX0_mutate_0 : decode cX0_mutate 0 = .ok (.aload_n 0, 1) := by decide +kernel
theorem dX0_mutate_1 : decode cX0_mutate 1 = .ok (.iload_n 1, 1) := by decide +kernel
theorem dX0_mutate_2 : decode cX0_mutate 2 = .ok (.invokevirtual 106, 3) := by decide +kernel
theorem dX0_mutate_5 : decode cX0_mutate 5 = .ok (.ifCond .eq 11, 3) := by decide +kernel
theorem dX0_mutate_8 : decode cX0_mutate 8 = .ok (.aload_n 0, 1) := by decide +kernel
theorem dX0_mutate_9 : decode cX0_mutate 9 = .ok (.iload_n 2, 1) := by decide +kernel
theorem dX0_mutate_10 : decode cX0_mutate 10 = .ok (.invokevirtual 73, 3) := by decide +kernel
theorem dX0_mutate_13 : decode cX0_mutate 13 = .ok (.ifCond .ne 13, 3) := by decide +kernel
theorem dX0_mutate_16 : decode cX0_mutate 16 = .ok (.new 77, 3) := by decide +kernel
theorem dX0_mutate_19 : decode cX0_mutate 19 = .ok (.dup, 1) := by decide +kernel
theorem dX0_mutate_20 : decode cX0_mutate 20 = .ok (.ldc 109, 2) := by decide +kernel
theorem dX0_mutate_22 : decode cX0_mutate 22 = .ok (.invokespecial 81, 3) := by decide +kernel
theorem dX0_mutate_25 : decode cX0_mutate 25 = .ok (.athrow, 1) := by decide +kernel
theorem dX0_mutate_26 : decode cX0_mutate 26 = .ok (.iload_n 3, 1) := by decide +kernel
theorem dX0_mutate_27 : decode cX0_mutate 27 = .ok (.iconst (-1), 1) := by decide +kernel
theorem dX0_mutate_28 : decode cX0_mutate 28 = .ok (.if_icmp .lt 8, 3) := by decide +kernel
theorem dX0_mutate_31 : decode cX0_mutate 31 = .ok (.iload_n 3, 1) := by decide +kernel
theorem dX0_mutate_32 : decode cX0_mutate 32 = .ok (.iconst 4, 1) := by decide +kernel
theorem dX0_mutate_33 : decode cX0_mutate 33 = .ok (.if_icmp .lt 13, 3) := by decide +kernel
theorem dX0_mutate_36 : decode cX0_mutate 36 = .ok (.new 57, 3) := by decide +kernel
theorem dX0_mutate_39 : decode cX0_mutate 39 = .ok (.dup, 1) := by decide +kernel
theorem dX0_mutate_40 : decode cX0_mutate 40 = .ok (.ldc 111, 2) := by decide +kernel
theorem dX0_mutate_42 : decode cX0_mutate 42 = .ok (.invokespecial 61, 3) := by decide +kernel
theorem dX0_mutate_45 : decode cX0_mutate 45 = .ok (.athrow, 1) := by decide +kernel
theorem dX0_mutate_46 : decode cX0_mutate 46 = .ok (.aload_n 0, 1) := by decide +kernel
theorem dX0_mutate_47 : decode cX0_mutate 47 = .ok (.getfield 33, 3) := by decide +kernel
theorem dX0_mutate_50 : decode cX0_mutate 50 = .ok (.iload_n 1, 1) := by decide +kernel
theorem dX0_mutate_51 : decode cX0_mutate 51 = .ok (.bipush 14, 2) := by decide +kernel
theorem dX0_mutate_53 : decode cX0_mutate 53 = .ok (.imul, 1) := by decide +kernel
theorem dX0_mutate_54 : decode cX0_mutate 54 = .ok (.iload_n 2, 1) := by decide +kernel
theorem dX0_mutate_55 : decode cX0_mutate 55 = .ok (.iadd, 1) := by decide +kernel
theorem dX0_mutate_56 : decode cX0_mutate 56 = .ok (.iaload, 1) := by decide +kernel
theorem dX0_mutate_57 : decode cX0_mutate 57 = .ok (.istore 4, 2) := by decide +kernel
theorem dX0_mutate_59 : decode cX0_mutate 59 = .ok (.aload_n 0, 1) := by decide +kernel
theorem dX0_mutate_60 : decode cX0_mutate 60 = .ok (.getfield 33, 3) := by decide +kernel
theorem dX0_mutate_63 : decode cX0_mutate 63 = .ok (.iload_n 1, 1) := by decide +kernel
theorem dX0_mutate_64 : decode cX0_mutate 64 = .ok (.bipush 14, 2) := by decide +kernel
theorem dX0_mutate_66 : decode cX0_mutate 66 = .ok (.imul, 1) := by decide +kernel
theorem dX0_mutate_67 : decode cX0_mutate 67 = .ok (.iload_n 2, 1) := by decide +kernel
theorem dX0_mutate_68 : decode cX0_mutate 68 = .ok (.iadd, 1) := by decide +kernel
theorem dX0_mutate_69 : decode cX0_mutate 69 = .ok (.iload_n 3, 1) := by decide +kernel
theorem dX0_mutate_70 : decode cX0_mutate 70 = .ok (.iastore, 1) := by decide +kernel
theorem dX0_mutate_71 : decode cX0_mutate 71 = .ok (.iload 4, 2) := by decide +kernel
theorem dX0_mutate_73 : decode cX0_mutate 73 = .ok (.ireturn, 1) := by decide +kernel
theorem dX0_isSite_0 : decode cX0_isSite 0 = .ok (.iload_n 1, 1) := by decide +kernel
theorem dX0_isSite_1 : decode cX0_isSite 1 = .ok (.ifCond .lt 15, 3) := by decide +kernel
theorem dX0_isSite_4 : decode cX0_isSite 4 = .ok (.iload_n 1, 1) := by decide +kernel
theorem dX0_isSite_5 : decode cX0_isSite 5 = .ok (.aload_n 0, 1) := by decide +kernel
theorem dX0_isSite_6 : decode cX0_isSite 6 = .ok (.getfield 24, 3) := by decide +kernel
theorem dX0_isSite_9 : decode cX0_isSite 9 = .ok (.if_icmp .ge 7, 3) := by decide +kernel
theorem dX0_isSite_12 : decode cX0_isSite 12 = .ok (.iconst 1, 1) := by decide +kernel
theorem dX0_isSite_13 : decode cX0_isSite 13 = .ok (.goto 4, 3) := by decide +kernel
theorem dX0_isSite_16 : decode cX0_isSite 16 = .ok (.iconst 0, 1) := by decide +kernel
theorem dX0_isSite_17 : decode cX0_isSite 17 = .ok (.ireturn, 1) := by decide +kernel
theorem dX0_time_0 : decode cX0_time 0 = .ok (.aload_n 0, 1) := by decide +kernel
theorem dX0_time_1 : decode cX0_time 1 = .ok (.iload_n 1, 1) := by decide +kernel
theorem dX0_time_2 : decode cX0_time 2 = .ok (.invokevirtual 73, 3) := by decide +kernel
theorem dX0_time_5 : decode cX0_time 5 = .ok (.ifCond .ne 13, 3) := by decide +kernel
theorem dX0_time_8 : decode cX0_time 8 = .ok (.new 77, 3) := by decide +kernel
theorem dX0_time_11 : decode cX0_time 11 = .ok (.dup, 1) := by decide +kernel
theorem dX0_time_12 : decode cX0_time 12 = .ok (.ldc 123, 2) := by decide +kernel
theorem dX0_time_14 : decode cX0_time 14 = .ok (.invokespecial 81, 3) := by decide +kernel
theorem dX0_time_17 : decode cX0_time 17 = .ok (.athrow, 1) := by decide +kernel
theorem dX0_time_18 : decode cX0_time 18 = .ok (.aload_n 0, 1) := by decide +kernel
theorem dX0_time_19 : decode cX0_time 19 = .ok (.getfield 13, 3) := by decide +kernel
theorem dX0_time_22 : decode cX0_time 22 = .ok (.iload_n 1, 1) := by decide +kernel
theorem dX0_time_23 : decode cX0_time 23 = .ok (.iaload, 1) := by decide +kernel
theorem dX0_time_24 : decode cX0_time 24 = .ok (.ireturn, 1) := by decide +kernel
theorem dX0_edge_0 : decode cX0_edge 0 = .ok (.aload_n 0, 1) := by decide +kernel
theorem dX0_edge_1 : decode cX0_edge 1 = .ok (.iload_n 1, 1) := by decide +kernel
theorem dX0_edge_2 : decode cX0_edge 2 = .ok (.invokevirtual 125, 3) := by decide +kernel
theorem dX0_edge_5 : decode cX0_edge 5 = .ok (.istore_n 3, 1) := by decide +kernel
theorem dX0_edge_6 : decode cX0_edge 6 = .ok (.iload_n 3, 1) := by decide +kernel
theorem dX0_edge_7 : decode cX0_edge 7 = .ok (.iconst (-1), 1) := by decide +kernel
theorem dX0_edge_8 : decode cX0_edge 8 = .ok (.if_icmp .eq 12, 3) := by decide +kernel
theorem dX0_edge_11 : decode cX0_edge 11 = .ok (.iload_n 2, 1) := by decide +kernel
theorem dX0_edge_12 : decode cX0_edge 12 = .ok (.ifCond .lt 8, 3) := by decide +kernel
theorem dX0_edge_15 : decode cX0_edge 15 = .ok (.iload_n 2, 1) := by decide +kernel
theorem dX0_edge_16 : decode cX0_edge 16 = .ok (.iconst 3, 1) := by decide +kernel
theorem dX0_edge_17 : decode cX0_edge 17 = .ok (.if_icmp .le 13, 3) := by decide +kernel
theorem dX0_edge_20 : decode cX0_edge 20 = .ok (.new 77, 3) := by decide +kernel
theorem dX0_edge_23 : decode cX0_edge 23 = .ok (.dup, 1) := by decide +kernel
theorem dX0_edge_24 : decode cX0_edge 24 = .ok (.ldc 129, 2) := by decide +kernel
theorem dX0_edge_26 : decode cX0_edge 26 = .ok (.invokespecial 81, 3) := by decide +kernel
theorem dX0_edge_29 : decode cX0_edge 29 = .ok (.athrow, 1) := by decide +kernel
theorem dX0_edge_30 : decode cX0_edge 30 = .ok (.iload_n 3, 1) := by decide +kernel
theorem dX0_edge_31 : decode cX0_edge 31 = .ok (.bipush 14, 2) := by decide +kernel
theorem dX0_edge_33 : decode cX0_edge 33 = .ok (.idiv, 1) := by decide +kernel
theorem dX0_edge_34 : decode cX0_edge 34 = .ok (.istore 4, 2) := by decide +kernel
theorem dX0_edge_36 : decode cX0_edge 36 = .ok (.iload_n 3, 1) := by decide +kernel
theorem dX0_edge_37 : decode cX0_edge 37 = .ok (.bipush 14, 2) := by decide +kernel
theorem dX0_edge_39 : decode cX0_edge 39 = .ok (.irem, 1) := by decide +kernel
theorem dX0_edge_40 : decode cX0_edge 40 = .ok (.istore 5, 2) := by decide +kernel
theorem dX0_edge_42 : decode cX0_edge 42 = .ok (.iload_n 2, 1) := by decide +kernel
theorem dX0_edge_43 : decode cX0_edge 43 = .ok (.tableswitch 46 0 2 #[25, 28, 37], 25) := by decide +kernel
theorem dX0_edge_68 : decode cX0_edge 68 = .ok (.iload 4, 2) := by decide +kernel
theorem dX0_edge_70 : decode cX0_edge 70 = .ok (.ireturn, 1) := by decide +kernel
theorem dX0_edge_71 : decode cX0_edge 71 = .ok (.aload_n 0, 1) := by decide +kernel
theorem dX0_edge_72 : decode cX0_edge 72 = .ok (.iload 4, 2) := by decide +kernel
theorem dX0_edge_74 : decode cX0_edge 74 = .ok (.iload 5, 2) := by decide +kernel
theorem dX0_edge_76 : decode cX0_edge 76 = .ok (.invokevirtual 131, 3) := by decide +kernel
theorem dX0_edge_79 : decode cX0_edge 79 = .ok (.ireturn, 1) := by decide +kernel
theorem dX0_edge_80 : decode cX0_edge 80 = .ok (.aload_n 0, 1) := by decide +kernel
theorem dX0_edge_81 : decode cX0_edge 81 = .ok (.iload 4, 2) := by decide +kernel
theorem dX0_edge_83 : decode cX0_edge 83 = .ok (.iload 5, 2) := by decide +kernel
theorem dX0_edge_85 : decode cX0_edge 85 = .ok (.invokevirtual 135, 3) := by decide +kernel
theorem dX0_edge_88 : decode cX0_edge 88 = .ok (.ireturn, 1) := by decide +kernel
theorem dX0_edge_89 : decode cX0_edge 89 = .ok (.iload 5, 2) := by decide +kernel
theorem dX0_edge_91 : decode cX0_edge 91 = .ok (.ireturn, 1) := by decide +kernel
theorem dX0_findEdge_0 : decode cX0_findEdge 0 = .ok (.iconst 0, 1) := by decide +kernel
theorem dX0_findEdge_1 : decode cX0_findEdge 1 = .ok (.istore_n 2, 1) := by decide +kernel
theorem dX0_findEdge_2 : decode cX0_findEdge 2 = .ok (.aload_n 0, 1) := by decide +kernel
theorem dX0_findEdge_3 : decode cX0_findEdge 3 = .ok (.iconst (-1), 1) := by decide +kernel
theorem dX0_findEdge_4 : decode cX0_findEdge 4 = .ok (.invokevirtual 177, 3) := by decide +kernel
theorem dX0_findEdge_7 : decode cX0_findEdge 7 = .ok (.istore_n 3, 1) := by decide +kernel
theorem dX0_findEdge_8 : decode cX0_findEdge 8 = .ok (.iconst 0, 1) := by decide +kernel
theorem dX0_findEdge_9 : decode cX0_findEdge 9 = .ok (.istore 4, 2) := by decide +kernel
theorem dX0_findEdge_11 : decode cX0_findEdge 11 = .ok (.iload 4, 2) := by decide +kernel
theorem dX0_findEdge_13 : decode cX0_findEdge 13 = .ok (.bipush 14, 2) := by decide +kernel
theorem dX0_findEdge_15 : decode cX0_findEdge 15 = .ok (.if_icmp .ge 94, 3) := by decide +kernel
theorem dX0_findEdge_18 : decode cX0_findEdge 18 = .ok (.iload_n 3, 1) := by decide +kernel
theorem dX0_findEdge_19 : decode cX0_findEdge 19 = .ok (.iconst (-1), 1) := by decide +kernel
theorem dX0_findEdge_20 : decode cX0_findEdge 20 = .ok (.if_icmp .eq 89, 3) := by decide +kernel
theorem dX0_findEdge_23 : decode cX0_findEdge 23 = .ok (.iconst 0, 1) := by decide +kernel
theorem dX0_findEdge_24 : decode cX0_findEdge 24 = .ok (.istore 5, 2) := by decide +kernel
theorem dX0_findEdge_26 : decode cX0_findEdge 26 = .ok (.iload 5, 2) := by decide +kernel
theorem dX0_findEdge_28 : decode cX0_findEdge 28 = .ok (.aload_n 0, 1) := by decide +kernel
theorem dX0_findEdge_29 : decode cX0_findEdge 29 = .ok (.getfield 7, 3) := by decide +kernel
theorem dX0_findEdge_32 : decode cX0_findEdge 32 = .ok (.if_icmp .ge 65, 3) := by decide +kernel
theorem dX0_findEdge_35 : decode cX0_findEdge 35 = .ok (.iconst 0, 1) := by decide +kernel
theorem dX0_findEdge_36 : decode cX0_findEdge 36 = .ok (.istore 6, 2) := by decide +kernel
theorem dX0_findEdge_38 : decode cX0_findEdge 38 = .ok (.iload 6, 2) := by decide +kernel
theorem dX0_findEdge_40 : decode cX0_findEdge 40 = .ok (.bipush 60, 2) := by decide +kernel
theorem dX0_findEdge_42 : decode cX0_findEdge 42 = .ok (.if_icmp .ge 49, 3) := by decide +kernel
theorem dX0_findEdge_45 : decode cX0_findEdge 45 = .ok (.aload_n 0, 1) := by decide +kernel
theorem dX0_findEdge_46 : decode cX0_findEdge 46 = .ok (.iload 6, 2) := by decide +kernel
theorem dX0_findEdge_48 : decode cX0_findEdge 48 = .ok (.iload 5, 2) := by decide +kernel
theorem dX0_findEdge_50 : decode cX0_findEdge 50 = .ok (.invokevirtual 135, 3) := by decide +kernel
theorem dX0_findEdge_53 : decode cX0_findEdge 53 = .ok (.iload_n 3, 1) := by decide +kernel
theorem dX0_findEdge_54 : decode cX0_findEdge 54 = .ok (.if_icmp .ne 31, 3) := by decide +kernel
theorem dX0_findEdge_57 : decode cX0_findEdge 57 = .ok (.aload_n 0, 1) := by decide +kernel
theorem dX0_findEdge_58 : decode cX0_findEdge 58 = .ok (.iload 6, 2) := by decide +kernel
theorem dX0_findEdge_60 : decode cX0_findEdge 60 = .ok (.iload 5, 2) := by decide +kernel
theorem dX0_findEdge_62 : decode cX0_findEdge 62 = .ok (.invokevirtual 174, 3) := by decide +kernel
theorem dX0_findEdge_65 : decode cX0_findEdge 65 = .ok (.ifCond .eq 20, 3) := by decide +kernel
theorem dX0_findEdge_68 : decode cX0_findEdge 68 = .ok (.iload_n 2, 1) := by decide +kernel
theorem dX0_findEdge_69 : decode cX0_findEdge 69 = .ok (.iload_n 1, 1) := by decide +kernel
theorem dX0_findEdge_70 : decode cX0_findEdge 70 = .ok (.if_icmp .ne 12, 3) := by decide +kernel
theorem dX0_findEdge_73 : decode cX0_findEdge 73 = .ok (.iload 6, 2) := by decide +kernel
theorem dX0_findEdge_75 : decode cX0_findEdge 75 = .ok (.bipush 14, 2) := by decide +kernel
theorem dX0_findEdge_77 : decode cX0_findEdge 77 = .ok (.imul, 1) := by decide +kernel
theorem dX0_findEdge_78 : decode cX0_findEdge 78 = .ok (.iload 5, 2) := by decide +kernel
theorem dX0_findEdge_80 : decode cX0_findEdge 80 = .ok (.iadd, 1) := by decide +kernel
theorem dX0_findEdge_81 : decode cX0_findEdge 81 = .ok (.ireturn, 1) := by decide +kernel
theorem dX0_findEdge_82 : decode cX0_findEdge 82 = .ok (.iinc 2 1, 3) := by decide +kernel
theorem dX0_findEdge_85 : decode cX0_findEdge 85 = .ok (.iinc 6 1, 3) := by decide +kernel
theorem dX0_findEdge_88 : decode cX0_findEdge 88 = .ok (.goto (-50), 3) := by decide +kernel
theorem dX0_findEdge_91 : decode cX0_findEdge 91 = .ok (.iinc 5 1, 3) := by decide +kernel
theorem dX0_findEdge_94 : decode cX0_findEdge 94 = .ok (.goto (-68), 3) := by decide +kernel
theorem dX0_findEdge_97 : decode cX0_findEdge 97 = .ok (.aload_n 0, 1) := by decide +kernel
theorem dX0_findEdge_98 : decode cX0_findEdge 98 = .ok (.iload_n 3, 1) := by decide +kernel
theorem dX0_findEdge_99 : decode cX0_findEdge 99 = .ok (.invokevirtual 177, 3) := by decide +kernel
theorem dX0_findEdge_102 : decode cX0_findEdge 102 = .ok (.istore_n 3, 1) := by decide +kernel
theorem dX0_findEdge_103 : decode cX0_findEdge 103 = .ok (.iinc 4 1, 3) := by decide +kernel
theorem dX0_findEdge_106 : decode cX0_findEdge 106 = .ok (.goto (-95), 3) := by decide +kernel
theorem dX0_findEdge_109 : decode cX0_findEdge 109 = .ok (.iconst (-1), 1) := by decide +kernel
theorem dX0_findEdge_110 : decode cX0_findEdge 110 = .ok (.ireturn, 1) := by decide +kernel
theorem dX0_nextByTime_0 : decode cX0_nextByTime 0 = .ok (.iconst (-1), 1) := by decide +kernel
theorem dX0_nextByTime_1 : decode cX0_nextByTime 1 = .ok (.istore_n 2, 1) := by decide +kernel
theorem dX0_nextByTime_2 : decode cX0_nextByTime 2 = .ok (.iconst 0, 1) := by decide +kernel
theorem dX0_nextByTime_3 : decode cX0_nextByTime 3 = .ok (.istore_n 3, 1) := by decide +kernel
theorem dX0_nextByTime_4 : decode cX0_nextByTime 4 = .ok (.iload_n 3, 1) := by decide +kernel
theorem dX0_nextByTime_5 : decode cX0_nextByTime 5 = .ok (.aload_n 0, 1) := by decide +kernel
theorem dX0_nextByTime_6 : decode cX0_nextByTime 6 = .ok (.getfield 7, 3) := by decide +kernel
theorem dX0_nextByTime_9 : decode cX0_nextByTime 9 = .ok (.if_icmp .ge 39, 3) := by decide +kernel
theorem dX0_nextByTime_12 : decode cX0_nextByTime 12 = .ok (.iload_n 1, 1) := by decide +kernel
theorem dX0_nextByTime_13 : decode cX0_nextByTime 13 = .ok (.iconst (-1), 1) := by decide +kernel
theorem dX0_nextByTime_14 : decode cX0_nextByTime 14 = .ok (.if_icmp .eq 12, 3) := by decide +kernel
theorem dX0_nextByTime_17 : decode cX0_nextByTime 17 = .ok (.aload_n 0, 1) := by decide +kernel
theorem dX0_nextByTime_18 : decode cX0_nextByTime 18 = .ok (.iload_n 1, 1) := by decide +kernel
theorem dX0_nextByTime_19 : decode cX0_nextByTime 19 = .ok (.iload_n 3, 1) := by decide +kernel
theorem dX0_nextByTime_20 : decode cX0_nextByTime 20 = .ok (.invokevirtual 180, 3) := by decide +kernel
theorem dX0_nextByTime_23 : decode cX0_nextByTime 23 = .ok (.ifCond .eq 19, 3) := by decide +kernel
theorem dX0_nextByTime_26 : decode cX0_nextByTime 26 = .ok (.iload_n 2, 1) := by decide +kernel
theorem dX0_nextByTime_27 : decode cX0_nextByTime 27 = .ok (.iconst (-1), 1) := by decide +kernel
theorem dX0_nextByTime_28 : decode cX0_nextByTime 28 = .ok (.if_icmp .eq 12, 3) := by decide +kernel
theorem dX0_nextByTime_31 : decode cX0_nextByTime 31 = .ok (.aload_n 0, 1) := by decide +kernel
theorem dX0_nextByTime_32 : decode cX0_nextByTime 32 = .ok (.iload_n 3, 1) := by decide +kernel
theorem dX0_nextByTime_33 : decode cX0_nextByTime 33 = .ok (.iload_n 2, 1) := by decide +kernel
theorem dX0_nextByTime_34 : decode cX0_nextByTime 34 = .ok (.invokevirtual 180, 3) := by decide +kernel
theorem dX0_nextByTime_37 : decode cX0_nextByTime 37 = .ok (.ifCond .eq 5, 3) := by decide +kernel
theorem dX0_nextByTime_40 : decode cX0_nextByTime 40 = .ok (.iload_n 3, 1) := by decide +kernel
theorem dX0_nextByTime_41 : decode cX0_nextByTime 41 = .ok (.istore_n 2, 1) := by decide +kernel
theorem dX0_nextByTime_42 : decode cX0_nextByTime 42 = .ok (.iinc 3 1, 3) := by decide +kernel
theorem dX0_nextByTime_45 : decode cX0_nextByTime 45 = .ok (.goto (-41), 3) := by decide +kernel
theorem dX0_nextByTime_48 : decode cX0_nextByTime 48 = .ok (.iload_n 2, 1) := by decide +kernel
theorem dX0_nextByTime_49 : decode cX0_nextByTime 49 = .ok (.ireturn, 1) := by decide +kernel
theorem dX0_isEarlier_0 : decode cX0_isEarlier 0 = .ok (.aload_n 0, 1) := by decide +kernel
theorem dX0_isEarlier_1 : decode cX0_isEarlier 1 = .ok (.getfield 13, 3) := by decide +kernel
theorem dX0_isEarlier_4 : decode cX0_isEarlier 4 = .ok (.iload_n 1, 1) := by decide +kernel
theorem dX0_isEarlier_5 : decode cX0_isEarlier 5 = .ok (.iaload, 1) := by decide +kernel
theorem dX0_isEarlier_6 : decode cX0_isEarlier 6 = .ok (.aload_n 0, 1) := by decide +kernel
theorem dX0_isEarlier_7 : decode cX0_isEarlier 7 = .ok (.getfield 13, 3) := by decide +kernel
theorem dX0_isEarlier_10 : decode cX0_isEarlier 10 = .ok (.iload_n 2, 1) := by decide +kernel
theorem dX0_isEarlier_11 : decode cX0_isEarlier 11 = .ok (.iaload, 1) := by decide +kernel
theorem dX0_isEarlier_12 : decode cX0_isEarlier 12 = .ok (.if_icmp .lt 23, 3) := by decide +kernel
theorem dX0_isEarlier_15 : decode cX0_isEarlier 15 = .ok (.aload_n 0, 1) := by decide +kernel
theorem dX0_isEarlier_16 : decode cX0_isEarlier 16 = .ok (.getfield 13, 3) := by decide +kernel
theorem dX0_isEarlier_19 : decode cX0_isEarlier 19 = .ok (.iload_n 1, 1) := by decide +kernel
theorem dX0_isEarlier_20 : decode cX0_isEarlier 20 = .ok (.iaload, 1) := by decide +kernel
theorem dX0_isEarlier_21 : decode cX0_isEarlier 21 = .ok (.aload_n 0, 1) := by decide +kernel
theorem dX0_isEarlier_22 : decode cX0_isEarlier 22 = .ok (.getfield 13, 3) := by decide +kernel
theorem dX0_isEarlier_25 : decode cX0_isEarlier 25 = .ok (.iload_n 2, 1) := by decide +kernel
theorem dX0_isEarlier_26 : decode cX0_isEarlier 26 = .ok (.iaload, 1) := by decide +kernel
theorem dX0_isEarlier_27 : decode cX0_isEarlier 27 = .ok (.if_icmp .ne 12, 3) := by decide +kernel
theorem dX0_isEarlier_30 : decode cX0_isEarlier 30 = .ok (.iload_n 1, 1) := by decide +kernel
theorem dX0_isEarlier_31 : decode cX0_isEarlier 31 = .ok (.iload_n 2, 1) := by decide +kernel
theorem dX0_isEarlier_32 : decode cX0_isEarlier 32 = .ok (.if_icmp .ge 7, 3) := by decide +kernel
theorem dX0_isEarlier_35 : decode cX0_isEarlier 35 = .ok (.iconst 1, 1) := by decide +kernel
theorem dX0_isEarlier_36 : decode cX0_isEarlier 36 = .ok (.goto 4, 3) := by decide +kernel
theorem dX0_isEarlier_39 : decode cX0_isEarlier 39 = .ok (.iconst 0, 1) := by decide +kernel
theorem dX0_isEarlier_40 : decode cX0_isEarlier 40 = .ok (.ireturn, 1) := by decide +kernel
theorem dX0_edgeEnd_0 : decode cX0_edgeEnd 0 = .ok (.iload_n 1, 1) := by decide +kernel
theorem dX0_edgeEnd_1 : decode cX0_edgeEnd 1 = .ok (.iconst 1, 1) := by decide +kernel
theorem dX0_edgeEnd_2 : decode cX0_edgeEnd 2 = .ok (.iadd, 1) := by decide +kernel
theorem dX0_edgeEnd_3 : decode cX0_edgeEnd 3 = .ok (.istore_n 3, 1) := by decide +kernel
theorem dX0_edgeEnd_4 : decode cX0_edgeEnd 4 = .ok (.iload_n 3, 1) := by decide +kernel
theorem dX0_edgeEnd_5 : decode cX0_edgeEnd 5 = .ok (.bipush 60, 2) := by decide +kernel
theorem dX0_edgeEnd_7 : decode cX0_edgeEnd 7 = .ok (.if_icmp .ge 24, 3) := by decide +kernel
theorem dX0_edgeEnd_10 : decode cX0_edgeEnd 10 = .ok (.aload_n 0, 1) := by decide +kernel
theorem dX0_edgeEnd_11 : decode cX0_edgeEnd 11 = .ok (.iload_n 3, 1) := by decide +kernel
theorem dX0_edgeEnd_12 : decode cX0_edgeEnd 12 = .ok (.iload_n 2, 1) := by decide +kernel
theorem dX0_edgeEnd_13 : decode cX0_edgeEnd 13 = .ok (.invokevirtual 135, 3) := by decide +kernel
theorem dX0_edgeEnd_16 : decode cX0_edgeEnd 16 = .ok (.aload_n 0, 1) := by decide +kernel
theorem dX0_edgeEnd_17 : decode cX0_edgeEnd 17 = .ok (.iload_n 1, 1) := by decide +kernel
theorem dX0_edgeEnd_18 : decode cX0_edgeEnd 18 = .ok (.iload_n 2, 1) := by decide +kernel
theorem dX0_edgeEnd_19 : decode cX0_edgeEnd 19 = .ok (.invokevirtual 135, 3) := by decide +kernel
theorem dX0_edgeEnd_22 : decode cX0_edgeEnd 22 = .ok (.if_icmp .ne 9, 3) := by decide +kernel
theorem dX0_edgeEnd_25 : decode cX0_edgeEnd 25 = .ok (.iinc 3 1, 3) := by decide +kernel
theorem dX0_edgeEnd_28 : decode cX0_edgeEnd 28 = .ok (.goto (-24), 3) := by decide +kernel
theorem dX0_edgeEnd_31 : decode cX0_edgeEnd 31 = .ok (.iload_n 3, 1) := by decide +kernel
theorem dX0_edgeEnd_32 : decode cX0_edgeEnd 32 = .ok (.ireturn, 1) := by decide +kernel
theorem dX0_parent_0 : decode cX0_parent 0 = .ok (.iload_n 1, 1) := by decide +kernel
theorem dX0_parent_1 : decode cX0_parent 1 = .ok (.invokestatic 94, 3) := by decide +kernel
theorem dX0_parent_4 : decode cX0_parent 4 = .ok (.ifCond .eq 11, 3) := by decide +kernel
theorem dX0_parent_7 : decode cX0_parent 7 = .ok (.aload_n 0, 1) := by decide +kernel
theorem dX0_parent_8 : decode cX0_parent 8 = .ok (.iload_n 2, 1) := by decide +kernel
theorem dX0_parent_9 : decode cX0_parent 9 = .ok (.invokevirtual 73, 3) := by decide +kernel
theorem dX0_parent_12 : decode cX0_parent 12 = .ok (.ifCond .ne 13, 3) := by decide +kernel
theorem dX0_parent_15 : decode cX0_parent 15 = .ok (.new 77, 3) := by decide +kernel
theorem dX0_parent_18 : decode cX0_parent 18 = .ok (.dup, 1) := by decide +kernel
theorem dX0_parent_19 : decode cX0_parent 19 = .ok (.ldc 138, 2) := by decide +kernel
theorem dX0_parent_21 : decode cX0_parent 21 = .ok (.invokespecial 81, 3) := by decide +kernel
theorem dX0_parent_24 : decode cX0_parent 24 = .ok (.athrow, 1) := by decide +kernel
theorem dX0_parent_25 : decode cX0_parent 25 = .ok (.aload_n 0, 1) := by decide +kernel
theorem dX0_parent_26 : decode cX0_parent 26 = .ok (.iload_n 1, 1) := by decide +kernel
theorem dX0_parent_27 : decode cX0_parent 27 = .ok (.iload_n 2, 1) := by decide +kernel
theorem dX0_parent_28 : decode cX0_parent 28 = .ok (.invokevirtual 135, 3) := by decide +kernel
theorem dX0_parent_31 : decode cX0_parent 31 = .ok (.ireturn, 1) := by decide +kernel
theorem dX0_meet_0 : decode cX0_meet 0 = .ok (.iload_n 1, 1) := by decide +kernel
theorem dX0_meet_1 : decode cX0_meet 1 = .ok (.invokestatic 94, 3) := by decide +kernel
theorem dX0_meet_4 : decode cX0_meet 4 = .ok (.ifCond .eq 19, 3) := by decide +kernel
theorem dX0_meet_7 : decode cX0_meet 7 = .ok (.aload_n 0, 1) := by decide +kernel
theorem dX0_meet_8 : decode cX0_meet 8 = .ok (.iload_n 2, 1) := by decide +kernel
theorem dX0_meet_9 : decode cX0_meet 9 = .ok (.invokevirtual 73, 3) := by decide +kernel
theorem dX0_meet_12 : decode cX0_meet 12 = .ok (.ifCond .eq 11, 3) := by decide +kernel
theorem dX0_meet_15 : decode cX0_meet 15 = .ok (.aload_n 0, 1) := by decide +kernel
theorem dX0_meet_16 : decode cX0_meet 16 = .ok (.iload_n 3, 1) := by decide +kernel
theorem dX0_meet_17 : decode cX0_meet 17 = .ok (.invokevirtual 73, 3) := by decide +kernel
theorem dX0_meet_20 : decode cX0_meet 20 = .ok (.ifCond .ne 13, 3) := by decide +kernel
theorem dX0_meet_23 : decode cX0_meet 23 = .ok (.new 77, 3) := by decide +kernel
theorem dX0_meet_26 : decode cX0_meet 26 = .ok (.dup, 1) := by decide +kernel
theorem dX0_meet_27 : decode cX0_meet 27 = .ok (.ldc 138, 2) := by decide +kernel
theorem dX0_meet_29 : decode cX0_meet 29 = .ok (.invokespecial 81, 3) := by decide +kernel
theorem dX0_meet_32 : decode cX0_meet 32 = .ok (.athrow, 1) := by decide +kernel
theorem dX0_meet_33 : decode cX0_meet 33 = .ok (.iload_n 2, 1) := by decide +kernel
theorem dX0_meet_34 : decode cX0_meet 34 = .ok (.istore 4, 2) := by decide +kernel
theorem dX0_meet_36 : decode cX0_meet 36 = .ok (.iconst 0, 1) := by decide +kernel
theorem dX0_meet_37 : decode cX0_meet 37 = .ok (.istore 5, 2) := by decide +kernel
theorem dX0_meet_39 : decode cX0_meet 39 = .ok (.iload 5, 2) := by decide +kernel
theorem dX0_meet_41 : decode cX0_meet 41 = .ok (.bipush 14, 2) := by decide +kernel
theorem dX0_meet_43 : decode cX0_meet 43 = .ok (.if_icmp .ge 38, 3) := by decide +kernel
theorem dX0_meet_46 : decode cX0_meet 46 = .ok (.iload 4, 2) := by decide +kernel
theorem dX0_meet_48 : decode cX0_meet 48 = .ok (.iconst (-1), 1) := by decide +kernel
theorem dX0_meet_49 : decode cX0_meet 49 = .ok (.if_icmp .eq 32, 3) := by decide +kernel
theorem dX0_meet_52 : decode cX0_meet 52 = .ok (.aload_n 0, 1) := by decide +kernel
theorem dX0_meet_53 : decode cX0_meet 53 = .ok (.iload_n 1, 1) := by decide +kernel
theorem dX0_meet_54 : decode cX0_meet 54 = .ok (.iload 4, 2) := by decide +kernel
theorem dX0_meet_56 : decode cX0_meet 56 = .ok (.iload_n 3, 1) := by decide +kernel
theorem dX0_meet_57 : decode cX0_meet 57 = .ok (.invokevirtual 140, 3) := by decide +kernel
theorem dX0_meet_60 : decode cX0_meet 60 = .ok (.ifCond .eq 6, 3) := by decide +kernel
theorem dX0_meet_63 : decode cX0_meet 63 = .ok (.iload 4, 2) := by decide +kernel
theorem dX0_meet_65 : decode cX0_meet 65 = .ok (.ireturn, 1) := by decide +kernel
theorem dX0_meet_66 : decode cX0_meet 66 = .ok (.aload_n 0, 1) := by decide +kernel
theorem dX0_meet_67 : decode cX0_meet 67 = .ok (.iload_n 1, 1) := by decide +kernel
theorem dX0_meet_68 : decode cX0_meet 68 = .ok (.iload 4, 2) := by decide +kernel
theorem dX0_meet_70 : decode cX0_meet 70 = .ok (.invokevirtual 135, 3) := by decide +kernel
theorem dX0_meet_73 : decode cX0_meet 73 = .ok (.istore 4, 2) := by decide +kernel
theorem dX0_meet_75 : decode cX0_meet 75 = .ok (.iinc 5 1, 3) := by decide +kernel
theorem dX0_meet_78 : decode cX0_meet 78 = .ok (.goto (-39), 3) := by decide +kernel
theorem dX0_meet_81 : decode cX0_meet 81 = .ok (.iconst (-1), 1) := by decide +kernel
theorem dX0_meet_82 : decode cX0_meet 82 = .ok (.ireturn, 1) := by decide +kernel
theorem dX0_isAtOrAbove_0 : decode cX0_isAtOrAbove 0 = .ok (.iload_n 3, 1) := by decide +kernel
theorem dX0_isAtOrAbove_1 : decode cX0_isAtOrAbove 1 = .ok (.istore 4, 2) := by decide +kernel
theorem dX0_isAtOrAbove_3 : decode cX0_isAtOrAbove 3 = .ok (.iconst 0, 1) := by decide +kernel
theorem dX0_isAtOrAbove_4 : decode cX0_isAtOrAbove 4 = .ok (.istore 5, 2) := by decide +kernel
theorem dX0_isAtOrAbove_6 : decode cX0_isAtOrAbove 6 = .ok (.iload 5, 2) := by decide +kernel
theorem dX0_isAtOrAbove_8 : decode cX0_isAtOrAbove 8 = .ok (.bipush 14, 2) := by decide +kernel
theorem dX0_isAtOrAbove_10 : decode cX0_isAtOrAbove 10 = .ok (.if_icmp .ge 32, 3) := by decide +kernel
theorem dX0_isAtOrAbove_13 : decode cX0_isAtOrAbove 13 = .ok (.iload 4, 2) := by decide +kernel
theorem dX0_isAtOrAbove_15 : decode cX0_isAtOrAbove 15 = .ok (.iconst (-1), 1) := by decide +kernel
theorem dX0_isAtOrAbove_16 : decode cX0_isAtOrAbove 16 = .ok (.if_icmp .eq 26, 3) := by decide +kernel
theorem dX0_isAtOrAbove_19 : decode cX0_isAtOrAbove 19 = .ok (.iload 4, 2) := by decide +kernel
theorem dX0_isAtOrAbove_21 : decode cX0_isAtOrAbove 21 = .ok (.iload_n 2, 1) := by decide +kernel
theorem dX0_isAtOrAbove_22 : decode cX0_isAtOrAbove 22 = .ok (.if_icmp .ne 5, 3) := by decide +kernel
theorem dX0_isAtOrAbove_25 : decode cX0_isAtOrAbove 25 = .ok (.iconst 1, 1) := by decide +kernel
theorem dX0_isAtOrAbove_26 : decode cX0_isAtOrAbove 26 = .ok (.ireturn, 1) := by decide +kernel
theorem dX0_isAtOrAbove_27 : decode cX0_isAtOrAbove 27 = .ok (.aload_n 0, 1) := by decide +kernel
theorem dX0_isAtOrAbove_28 : decode cX0_isAtOrAbove 28 = .ok (.iload_n 1, 1) := by decide +kernel
theorem dX0_isAtOrAbove_29 : decode cX0_isAtOrAbove 29 = .ok (.iload 4, 2) := by decide +kernel
theorem dX0_isAtOrAbove_31 : decode cX0_isAtOrAbove 31 = .ok (.invokevirtual 135, 3) := by decide +kernel
theorem dX0_isAtOrAbove_34 : decode cX0_isAtOrAbove 34 = .ok (.istore 4, 2) := by decide +kernel
theorem dX0_isAtOrAbove_36 : decode cX0_isAtOrAbove 36 = .ok (.iinc 5 1, 3) := by decide +kernel
theorem dX0_isAtOrAbove_39 : decode cX0_isAtOrAbove 39 = .ok (.goto (-33), 3) := by decide +kernel
theorem dX0_isAtOrAbove_42 : decode cX0_isAtOrAbove 42 = .ok (.iconst 0, 1) := by decide +kernel
theorem dX0_isAtOrAbove_43 : decode cX0_isAtOrAbove 43 = .ok (.ireturn, 1) := by decide +kernel
theorem dX0_cut_0 : decode cX0_cut 0 = .ok (.iconst 0, 1) := by decide +kernel
theorem dX0_cut_1 : decode cX0_cut 1 = .ok (.istore_n 2, 1) := by decide +kernel
theorem dX0_cut_2 : decode cX0_cut 2 = .ok (.iconst 0, 1) := by decide +kernel
theorem dX0_cut_3 : decode cX0_cut 3 = .ok (.istore_n 3, 1) := by decide +kernel
theorem dX0_cut_4 : decode cX0_cut 4 = .ok (.iload_n 3, 1) := by decide +kernel
theorem dX0_cut_5 : decode cX0_cut 5 = .ok (.bipush 60, 2) := by decide +kernel
theorem dX0_cut_7 : decode cX0_cut 7 = .ok (.if_icmp .ge 27, 3) := by decide +kernel
theorem dX0_cut_10 : decode cX0_cut 10 = .ok (.aload_n 0, 1) := by decide +kernel
theorem dX0_cut_11 : decode cX0_cut 11 = .ok (.iload_n 3, 1) := by decide +kernel
theorem dX0_cut_12 : decode cX0_cut 12 = .ok (.invokevirtual 144, 3) := by decide +kernel
theorem dX0_cut_15 : decode cX0_cut 15 = .ok (.ifCond .eq 13, 3) := by decide +kernel
theorem dX0_cut_18 : decode cX0_cut 18 = .ok (.iload_n 2, 1) := by decide +kernel
theorem dX0_cut_19 : decode cX0_cut 19 = .ok (.iload_n 1, 1) := by decide +kernel
theorem dX0_cut_20 : decode cX0_cut 20 = .ok (.if_icmp .ne 5, 3) := by decide +kernel
theorem dX0_cut_23 : decode cX0_cut 23 = .ok (.iload_n 3, 1) := by decide +kernel
theorem dX0_cut_24 : decode cX0_cut 24 = .ok (.ireturn, 1) := by decide +kernel
theorem dX0_cut_25 : decode cX0_cut 25 = .ok (.iinc 2 1, 3) := by decide +kernel
theorem dX0_cut_28 : decode cX0_cut 28 = .ok (.iinc 3 1, 3) := by decide +kernel
theorem dX0_cut_31 : decode cX0_cut 31 = .ok (.goto (-27), 3) := by decide +kernel
theorem dX0_cut_34 : decode cX0_cut 34 = .ok (.iload_n 2, 1) := by decide +kernel
theorem dX0_cut_35 : decode cX0_cut 35 = .ok (.iload_n 1, 1) := by decide +kernel
theorem dX0_cut_36 : decode cX0_cut 36 = .ok (.if_icmp .eq 13, 3) := by decide +kernel
theorem dX0_cut_39 : decode cX0_cut 39 = .ok (.new 77, 3) := by decide +kernel
theorem dX0_cut_42 : decode cX0_cut 42 = .ok (.dup, 1) := by decide +kernel
theorem dX0_cut_43 : decode cX0_cut 43 = .ok (.ldc 147, 2) := by decide +kernel
theorem dX0_cut_45 : decode cX0_cut 45 = .ok (.invokespecial 81, 3) := by decide +kernel
theorem dX0_cut_48 : decode cX0_cut 48 = .ok (.athrow, 1) := by decide +kernel
theorem dX0_cut_49 : decode cX0_cut 49 = .ok (.bipush 60, 2) := by decide +kernel
theorem dX0_cut_51 : decode cX0_cut 51 = .ok (.ireturn, 1) := by decide +kernel
theorem dX0_letter_0 : decode cX0_letter 0 = .ok (.aload_n 0, 1) := by decide +kernel
theorem dX0_letter_1 : decode cX0_letter 1 = .ok (.iload_n 1, 1) := by decide +kernel
theorem dX0_letter_2 : decode cX0_letter 2 = .ok (.invokevirtual 106, 3) := by decide +kernel
theorem dX0_letter_5 : decode cX0_letter 5 = .ok (.ifCond .eq 11, 3) := by decide +kernel
theorem dX0_letter_8 : decode cX0_letter 8 = .ok (.aload_n 0, 1) := by decide +kernel
theorem dX0_letter_9 : decode cX0_letter 9 = .ok (.iload_n 2, 1) := by decide +kernel
theorem dX0_letter_10 : decode cX0_letter 10 = .ok (.invokevirtual 73, 3) := by decide +kernel
theorem dX0_letter_13 : decode cX0_letter 13 = .ok (.ifCond .ne 13, 3) := by decide +kernel
theorem dX0_letter_16 : decode cX0_letter 16 = .ok (.new 77, 3) := by decide +kernel
theorem dX0_letter_19 : decode cX0_letter 19 = .ok (.dup, 1) := by decide +kernel
theorem dX0_letter_20 : decode cX0_letter 20 = .ok (.ldc 109, 2) := by decide +kernel
theorem dX0_letter_22 : decode cX0_letter 22 = .ok (.invokespecial 81, 3) := by decide +kernel
theorem dX0_letter_25 : decode cX0_letter 25 = .ok (.athrow, 1) := by decide +kernel
theorem dX0_letter_26 : decode cX0_letter 26 = .ok (.aload_n 0, 1) := by decide +kernel
theorem dX0_letter_27 : decode cX0_letter 27 = .ok (.iload_n 1, 1) := by decide +kernel
theorem dX0_letter_28 : decode cX0_letter 28 = .ok (.iload_n 2, 1) := by decide +kernel
theorem dX0_letter_29 : decode cX0_letter 29 = .ok (.invokevirtual 149, 3) := by decide +kernel
theorem dX0_letter_32 : decode cX0_letter 32 = .ok (.ireturn, 1) := by decide +kernel
theorem dJ7_fill_0 : decode cJ7_fill 0 = .ok (.iconst 0, 1) := by decide +kernel
theorem dJ7_fill_1 : decode cJ7_fill 1 = .ok (.istore_n 2, 1) := by decide +kernel
theorem dJ7_fill_2 : decode cJ7_fill 2 = .ok (.aload_n 0, 1) := by decide +kernel
theorem dJ7_fill_3 : decode cJ7_fill 3 = .ok (.arraylength, 1) := by decide +kernel
theorem dJ7_fill_4 : decode cJ7_fill 4 = .ok (.istore_n 3, 1) := by decide +kernel
theorem dJ7_fill_5 : decode cJ7_fill 5 = .ok (.iload_n 2, 1) := by decide +kernel
theorem dJ7_fill_6 : decode cJ7_fill 6 = .ok (.iload_n 3, 1) := by decide +kernel
theorem dJ7_fill_7 : decode cJ7_fill 7 = .ok (.if_icmp .ge 13, 3) := by decide +kernel
theorem dJ7_fill_10 : decode cJ7_fill 10 = .ok (.aload_n 0, 1) := by decide +kernel
theorem dJ7_fill_11 : decode cJ7_fill 11 = .ok (.iload_n 2, 1) := by decide +kernel
theorem dJ7_fill_12 : decode cJ7_fill 12 = .ok (.iload_n 1, 1) := by decide +kernel
theorem dJ7_fill_13 : decode cJ7_fill 13 = .ok (.iastore, 1) := by decide +kernel
theorem dJ7_fill_14 : decode cJ7_fill 14 = .ok (.iinc 2 1, 3) := by decide +kernel
theorem dJ7_fill_17 : decode cJ7_fill 17 = .ok (.goto (-12), 3) := by decide +kernel
theorem dJ7_fill_20 : decode cJ7_fill 20 = .ok (.return_, 1) := by decide +kernel
