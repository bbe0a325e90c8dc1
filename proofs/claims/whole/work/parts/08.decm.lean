theorem dX1_init_0 : decode cX1_init 0 = .ok (.aload_n 0, 1) := by decide +kernel
theorem dX1_init_1 : decode cX1_init 1 = .ok (.invokespecial 1, 3) := by decide +kernel
theorem dX1_init_4 : decode cX1_init 4 = .ok (.aload_n 0, 1) := by decide +kernel
theorem dX1_init_5 : decode cX1_init 5 = .ok (.bipush 14, 2) := by decide +kernel
theorem dX1_init_7 : decode cX1_init 7 = .ok (.newarray .int, 2) := by decide +kernel
theorem dX1_init_9 : decode cX1_init 9 = .ok (.putfield 7, 3) := by decide +kernel
theorem dX1_init_12 : decode cX1_init 12 = .ok (.aload_n 0, 1) := by decide +kernel
theorem dX1_init_13 : decode cX1_init 13 = .ok (.bipush 14, 2) := by decide +kernel
theorem dX1_init_15 : decode cX1_init 15 = .ok (.newarray .boolean, 2) := by decide +kernel
theorem dX1_init_17 : decode cX1_init 17 = .ok (.putfield 13, 3) := by decide +kernel
theorem dX1_init_20 : decode cX1_init 20 = .ok (.aload_n 0, 1) := by decide +kernel
theorem dX1_init_21 : decode cX1_init 21 = .ok (.sipush 840, 3) := by decide +kernel
theorem dX1_init_24 : decode cX1_init 24 = .ok (.newarray .int, 2) := by decide +kernel
theorem dX1_init_26 : decode cX1_init 26 = .ok (.putfield 17, 3) := by decide +kernel
theorem dX1_init_29 : decode cX1_init 29 = .ok (.aload_n 0, 1) := by decide +kernel
theorem dX1_init_30 : decode cX1_init 30 = .ok (.bipush 8, 2) := by decide +kernel
theorem dX1_init_32 : decode cX1_init 32 = .ok (.newarray .int, 2) := by decide +kernel
theorem dX1_init_34 : decode cX1_init 34 = .ok (.putfield 20, 3) := by decide +kernel
theorem dX1_init_37 : decode cX1_init 37 = .ok (.aload_n 0, 1) := by decide +kernel
theorem dX1_init_38 : decode cX1_init 38 = .ok (.bipush 8, 2) := by decide +kernel
theorem dX1_init_40 : decode cX1_init 40 = .ok (.newarray .int, 2) := by decide +kernel
theorem dX1_init_42 : decode cX1_init 42 = .ok (.putfield 23, 3) := by decide +kernel
theorem dX1_init_45 : decode cX1_init 45 = .ok (.aload_n 0, 1) := by decide +kernel
theorem dX1_init_46 : decode cX1_init 46 = .ok (.bipush 112, 2) := by decide +kernel
theorem dX1_init_48 : decode cX1_init 48 = .ok (.newarray .int, 2) := by decide +kernel
theorem dX1_init_50 : decode cX1_init 50 = .ok (.putfield 26, 3) := by decide +kernel
theorem dX1_init_53 : decode cX1_init 53 = .ok (.aload_n 0, 1) := by decide +kernel
theorem dX1_init_54 : decode cX1_init 54 = .ok (.bipush 14, 2) := by decide +kernel
theorem dX1_init_56 : decode cX1_init 56 = .ok (.newarray .int, 2) := by decide +kernel
theorem dX1_init_58 : decode cX1_init 58 = .ok (.putfield 29, 3) := by decide +kernel
theorem dX1_init_61 : decode cX1_init 61 = .ok (.aload_n 0, 1) := by decide +kernel
theorem dX1_init_62 : decode cX1_init 62 = .ok (.sipush 840, 3) := by decide +kernel
theorem dX1_init_65 : decode cX1_init 65 = .ok (.newarray .int, 2) := by decide +kernel
theorem dX1_init_67 : decode cX1_init 67 = .ok (.putfield 32, 3) := by decide +kernel
theorem dX1_init_70 : decode cX1_init 70 = .ok (.aload_n 0, 1) := by decide +kernel
theorem dX1_init_71 : decode cX1_init 71 = .ok (.bipush 112, 2) := by decide +kernel
theorem dX1_init_73 : decode cX1_init 73 = .ok (.newarray .int, 2) := by decide +kernel
theorem dX1_init_75 : decode cX1_init 75 = .ok (.putfield 35, 3) := by decide +kernel
theorem dX1_init_78 : decode cX1_init 78 = .ok (.iconst 0, 1) := by decide +kernel
theorem dX1_init_79 : decode cX1_init 79 = .ok (.istore_n 1, 1) := by decide +kernel
theorem dX1_init_80 : decode cX1_init 80 = .ok (.iload_n 1, 1) := by decide +kernel
theorem dX1_init_81 : decode cX1_init 81 = .ok (.bipush 14, 2) := by decide +kernel
theorem dX1_init_83 : decode cX1_init 83 = .ok (.if_icmp .ge 16, 3) := by decide +kernel
theorem dX1_init_86 : decode cX1_init 86 = .ok (.aload_n 0, 1) := by decide +kernel
theorem dX1_init_87 : decode cX1_init 87 = .ok (.getfield 29, 3) := by decide +kernel
theorem dX1_init_90 : decode cX1_init 90 = .ok (.iload_n 1, 1) := by decide +kernel
theorem dX1_init_91 : decode cX1_init 91 = .ok (.iconst (-1), 1) := by decide +kernel
theorem dX1_init_92 : decode cX1_init 92 = .ok (.iastore, 1) := by decide +kernel
theorem dX1_init_93 : decode cX1_init 93 = .ok (.iinc 1 1, 3) := by decide +kernel
theorem dX1_init_96 : decode cX1_init 96 = .ok (.goto (-16), 3) := by decide +kernel
theorem dX1_init_99 : decode cX1_init 99 = .ok (.return_, 1) := by decide +kernel
theorem dX1_thrown_0 : decode cX1_thrown 0 = .ok (.aload_n 0, 1) := by decide +kernel
theorem dX1_thrown_1 : decode cX1_thrown 1 = .ok (.getfield 38, 3) := by decide +kernel
theorem dX1_thrown_4 : decode cX1_thrown 4 = .ok (.ireturn, 1) := by decide +kernel
theorem dX1_node_0 : decode cX1_node 0 = .ok (.aload_n 0, 1) := by decide +kernel
theorem dX1_node_1 : decode cX1_node 1 = .ok (.iload_n 1, 1) := by decide +kernel
theorem dX1_node_2 : decode cX1_node 2 = .ok (.ifCond .lt 10, 3) := by decide +kernel
theorem dX1_node_5 : decode cX1_node 5 = .ok (.iload_n 1, 1) := by decide +kernel
theorem dX1_node_6 : decode cX1_node 6 = .ok (.sipush 1000, 3) := by decide +kernel
theorem dX1_node_9 : decode cX1_node 9 = .ok (.if_icmp .le 7, 3) := by decide +kernel
theorem dX1_node_12 : decode cX1_node 12 = .ok (.iconst 1, 1) := by decide +kernel
theorem dX1_node_13 : decode cX1_node 13 = .ok (.goto 17, 3) := by decide +kernel
theorem dX1_node_16 : decode cX1_node 16 = .ok (.aload_n 0, 1) := by decide +kernel
theorem dX1_node_17 : decode cX1_node 17 = .ok (.getfield 42, 3) := by decide +kernel
theorem dX1_node_20 : decode cX1_node 20 = .ok (.bipush 14, 2) := by decide +kernel
theorem dX1_node_22 : decode cX1_node 22 = .ok (.if_icmp .ne 7, 3) := by decide +kernel
theorem dX1_node_25 : decode cX1_node 25 = .ok (.iconst 2, 1) := by decide +kernel
theorem dX1_node_26 : decode cX1_node 26 = .ok (.goto 4, 3) := by decide +kernel
theorem dX1_node_29 : decode cX1_node 29 = .ok (.iconst 0, 1) := by decide +kernel
theorem dX1_node_30 : decode cX1_node 30 = .ok (.invokevirtual 63, 3) := by decide +kernel
theorem dX1_node_33 : decode cX1_node 33 = .ok (.ifCond .eq 5, 3) := by decide +kernel
theorem dX1_node_36 : decode cX1_node 36 = .ok (.iconst 0, 1) := by decide +kernel
theorem dX1_node_37 : decode cX1_node 37 = .ok (.ireturn, 1) := by decide +kernel
theorem dX1_node_38 : decode cX1_node 38 = .ok (.aload_n 0, 1) := by decide +kernel
theorem dX1_node_39 : decode cX1_node 39 = .ok (.getfield 7, 3) := by decide +kernel
theorem dX1_node_42 : decode cX1_node 42 = .ok (.aload_n 0, 1) := by decide +kernel
theorem dX1_node_43 : decode cX1_node 43 = .ok (.getfield 42, 3) := by decide +kernel
theorem dX1_node_46 : decode cX1_node 46 = .ok (.iload_n 1, 1) := by decide +kernel
theorem dX1_node_47 : decode cX1_node 47 = .ok (.iastore, 1) := by decide +kernel
theorem dX1_node_48 : decode cX1_node 48 = .ok (.aload_n 0, 1) := by decide +kernel
theorem dX1_node_49 : decode cX1_node 49 = .ok (.getfield 13, 3) := by decide +kernel
theorem dX1_node_52 : decode cX1_node 52 = .ok (.aload_n 0, 1) := by decide +kernel
theorem dX1_node_53 : decode cX1_node 53 = .ok (.getfield 42, 3) := by decide +kernel
theorem dX1_node_56 : decode cX1_node 56 = .ok (.iload_n 2, 1) := by decide +kernel
theorem dX1_node_57 : decode cX1_node 57 = .ok (.bastore, 1) := by decide +kernel
theorem dX1_node_58 : decode cX1_node 58 = .ok (.iconst 0, 1) := by decide +kernel
theorem dX1_node_59 : decode cX1_node 59 = .ok (.istore_n 3, 1) := by decide +kernel
theorem dX1_node_60 : decode cX1_node 60 = .ok (.iload_n 3, 1) := by decide +kernel
theorem dX1_node_61 : decode cX1_node 61 = .ok (.bipush 60, 2) := by decide +kernel
theorem dX1_node_63 : decode cX1_node 63 = .ok (.if_icmp .ge 24, 3) := by decide +kernel
theorem dX1_node_66 : decode cX1_node 66 = .ok (.aload_n 0, 1) := by decide +kernel
theorem dX1_node_67 : decode cX1_node 67 = .ok (.getfield 17, 3) := by decide +kernel
theorem dX1_node_70 : decode cX1_node 70 = .ok (.bipush 60, 2) := by decide +kernel
theorem dX1_node_72 : decode cX1_node 72 = .ok (.aload_n 0, 1) := by decide +kernel
theorem dX1_node_73 : decode cX1_node 73 = .ok (.getfield 42, 3) := by decide +kernel
theorem dX1_node_76 : decode cX1_node 76 = .ok (.imul, 1) := by decide +kernel
theorem dX1_node_77 : decode cX1_node 77 = .ok (.iload_n 3, 1) := by decide +kernel
theorem dX1_node_78 : decode cX1_node 78 = .ok (.iadd, 1) := by decide +kernel
theorem dX1_node_79 : decode cX1_node 79 = .ok (.iconst 0, 1) := by decide +kernel
theorem dX1_node_80 : decode cX1_node 80 = .ok (.iastore, 1) := by decide +kernel
theorem dX1_node_81 : decode cX1_node 81 = .ok (.iinc 3 1, 3) := by decide +kernel
theorem dX1_node_84 : decode cX1_node 84 = .ok (.goto (-24), 3) := by decide +kernel
theorem dX1_node_87 : decode cX1_node 87 = .ok (.iconst 0, 1) := by decide +kernel
theorem dX1_node_88 : decode cX1_node 88 = .ok (.istore_n 3, 1) := by decide +kernel
theorem dX1_node_89 : decode cX1_node 89 = .ok (.iload_n 3, 1) := by decide +kernel
theorem dX1_node_90 : decode cX1_node 90 = .ok (.bipush 8, 2) := by decide +kernel
theorem dX1_node_92 : decode cX1_node 92 = .ok (.if_icmp .ge 24, 3) := by decide +kernel
theorem dX1_node_95 : decode cX1_node 95 = .ok (.aload_n 0, 1) := by decide +kernel
theorem dX1_node_96 : decode cX1_node 96 = .ok (.getfield 26, 3) := by decide +kernel
theorem dX1_node_99 : decode cX1_node 99 = .ok (.bipush 14, 2) := by decide +kernel
theorem dX1_node_101 : decode cX1_node 101 = .ok (.iload_n 3, 1) := by decide +kernel
theorem dX1_node_102 : decode cX1_node 102 = .ok (.imul, 1) := by decide +kernel
theorem dX1_node_103 : decode cX1_node 103 = .ok (.aload_n 0, 1) := by decide +kernel
theorem dX1_node_104 : decode cX1_node 104 = .ok (.getfield 42, 3) := by decide +kernel
theorem dX1_node_107 : decode cX1_node 107 = .ok (.iadd, 1) := by decide +kernel
theorem dX1_node_108 : decode cX1_node 108 = .ok (.iconst 0, 1) := by decide +kernel
theorem dX1_node_109 : decode cX1_node 109 = .ok (.iastore, 1) := by decide +kernel
theorem dX1_node_110 : decode cX1_node 110 = .ok (.iinc 3 1, 3) := by decide +kernel
theorem dX1_node_113 : decode cX1_node 113 = .ok (.goto (-24), 3) := by decide +kernel
theorem dX1_node_116 : decode cX1_node 116 = .ok (.aload_n 0, 1) := by decide +kernel
theorem dX1_node_117 : decode cX1_node 117 = .ok (.dup, 1) := by decide +kernel
theorem dX1_node_118 : decode cX1_node 118 = .ok (.getfield 42, 3) := by decide +kernel
theorem dX1_node_121 : decode cX1_node 121 = .ok (.iconst 1, 1) := by decide +kernel
theorem dX1_node_122 : decode cX1_node 122 = .ok (.iadd, 1) := by decide +kernel
theorem dX1_node_123 : decode cX1_node 123 = .ok (.putfield 42, 3) := by decide +kernel
theorem dX1_node_126 : decode cX1_node 126 = .ok (.aload_n 0, 1) := by decide +kernel
theorem dX1_node_127 : decode cX1_node 127 = .ok (.getfield 42, 3) := by decide +kernel
theorem dX1_node_130 : decode cX1_node 130 = .ok (.iconst 1, 1) := by decide +kernel
theorem dX1_node_131 : decode cX1_node 131 = .ok (.isub, 1) := by decide +kernel
theorem dX1_node_132 : decode cX1_node 132 = .ok (.ireturn, 1) := by decide +kernel
theorem dX1_refused_0 : decode cX1_refused 0 = .ok (.aload_n 0, 1) := by decide +kernel
theorem dX1_refused_1 : decode cX1_refused 1 = .ok (.iload_n 1, 1) := by decide +kernel
theorem dX1_refused_2 : decode cX1_refused 2 = .ok (.putfield 38, 3) := by decide +kernel
theorem dX1_refused_5 : decode cX1_refused 5 = .ok (.iload_n 1, 1) := by decide +kernel
theorem dX1_refused_6 : decode cX1_refused 6 = .ok (.ifCond .le 7, 3) := by decide +kernel
theorem dX1_refused_9 : decode cX1_refused 9 = .ok (.iconst 1, 1) := by decide +kernel
theorem dX1_refused_10 : decode cX1_refused 10 = .ok (.goto 4, 3) := by decide +kernel
theorem dX1_refused_13 : decode cX1_refused 13 = .ok (.iconst 0, 1) := by decide +kernel
theorem dX1_refused_14 : decode cX1_refused 14 = .ok (.ireturn, 1) := by decide +kernel
theorem dX1_join_0 : decode cX1_join 0 = .ok (.aload_n 0, 1) := by decide +kernel
theorem dX1_join_1 : decode cX1_join 1 = .ok (.iload_n 1, 1) := by decide +kernel
theorem dX1_join_2 : decode cX1_join 2 = .ok (.iload_n 2, 1) := by decide +kernel
theorem dX1_join_3 : decode cX1_join 3 = .ok (.invokestatic 67, 3) := by decide +kernel
theorem dX1_join_6 : decode cX1_join 6 = .ok (.ifCond .eq 20, 3) := by decide +kernel
theorem dX1_join_9 : decode cX1_join 9 = .ok (.aload_n 0, 1) := by decide +kernel
theorem dX1_join_10 : decode cX1_join 10 = .ok (.iload_n 3, 1) := by decide +kernel
theorem dX1_join_11 : decode cX1_join 11 = .ok (.invokevirtual 70, 3) := by decide +kernel
theorem dX1_join_14 : decode cX1_join 14 = .ok (.ifCond .eq 12, 3) := by decide +kernel
theorem dX1_join_17 : decode cX1_join 17 = .ok (.aload_n 0, 1) := by decide +kernel
theorem dX1_join_18 : decode cX1_join 18 = .ok (.iload 4, 2) := by decide +kernel
theorem dX1_join_20 : decode cX1_join 20 = .ok (.invokevirtual 70, 3) := by decide +kernel
theorem dX1_join_23 : decode cX1_join 23 = .ok (.ifCond .ne 7, 3) := by decide +kernel
theorem dX1_join_26 : decode cX1_join 26 = .ok (.iconst 1, 1) := by decide +kernel
theorem dX1_join_27 : decode cX1_join 27 = .ok (.goto 24, 3) := by decide +kernel
theorem dX1_join_30 : decode cX1_join 30 = .ok (.aload_n 0, 1) := by decide +kernel
theorem dX1_join_31 : decode cX1_join 31 = .ok (.getfield 7, 3) := by decide +kernel
theorem dX1_join_34 : decode cX1_join 34 = .ok (.iload_n 3, 1) := by decide +kernel
theorem dX1_join_35 : decode cX1_join 35 = .ok (.iaload, 1) := by decide +kernel
theorem dX1_join_36 : decode cX1_join 36 = .ok (.aload_n 0, 1) := by decide +kernel
theorem dX1_join_37 : decode cX1_join 37 = .ok (.getfield 7, 3) := by decide +kernel
theorem dX1_join_40 : decode cX1_join 40 = .ok (.iload 4, 2) := by decide +kernel
theorem dX1_join_42 : decode cX1_join 42 = .ok (.iaload, 1) := by decide +kernel
theorem dX1_join_43 : decode cX1_join 43 = .ok (.if_icmp .gt 7, 3) := by decide +kernel
theorem dX1_join_46 : decode cX1_join 46 = .ok (.iconst 2, 1) := by decide +kernel
theorem dX1_join_47 : decode cX1_join 47 = .ok (.goto 4, 3) := by decide +kernel
theorem dX1_join_50 : decode cX1_join 50 = .ok (.iconst 0, 1) := by decide +kernel
theorem dX1_join_51 : decode cX1_join 51 = .ok (.invokevirtual 63, 3) := by decide +kernel
theorem dX1_join_54 : decode cX1_join 54 = .ok (.ifCond .eq 5, 3) := by decide +kernel
theorem dX1_join_57 : decode cX1_join 57 = .ok (.iconst 0, 1) := by decide +kernel
theorem dX1_join_58 : decode cX1_join 58 = .ok (.ireturn, 1) := by decide +kernel
theorem dX1_join_59 : decode cX1_join 59 = .ok (.iconst 0, 1) := by decide +kernel
theorem dX1_join_60 : decode cX1_join 60 = .ok (.istore 5, 2) := by decide +kernel
theorem dX1_join_62 : decode cX1_join 62 = .ok (.iload_n 1, 1) := by decide +kernel
theorem dX1_join_63 : decode cX1_join 63 = .ok (.istore 6, 2) := by decide +kernel
theorem dX1_join_65 : decode cX1_join 65 = .ok (.iload 6, 2) := by decide +kernel
theorem dX1_join_67 : decode cX1_join 67 = .ok (.iload_n 2, 1) := by decide +kernel
theorem dX1_join_68 : decode cX1_join 68 = .ok (.if_icmp .ge 58, 3) := by decide +kernel
theorem dX1_join_71 : decode cX1_join 71 = .ok (.aload_n 0, 1) := by decide +kernel
theorem dX1_join_72 : decode cX1_join 72 = .ok (.iload 4, 2) := by decide +kernel
theorem dX1_join_74 : decode cX1_join 74 = .ok (.iload 6, 2) := by decide +kernel
theorem dX1_join_76 : decode cX1_join 76 = .ok (.invokevirtual 48, 3) := by decide +kernel
theorem dX1_join_79 : decode cX1_join 79 = .ok (.istore 7, 2) := by decide +kernel
theorem dX1_join_81 : decode cX1_join 81 = .ok (.aload_n 0, 1) := by decide +kernel
theorem dX1_join_82 : decode cX1_join 82 = .ok (.iload 7, 2) := by decide +kernel
theorem dX1_join_84 : decode cX1_join 84 = .ok (.ifCond .lt 13, 3) := by decide +kernel
theorem dX1_join_87 : decode cX1_join 87 = .ok (.iload 7, 2) := by decide +kernel
theorem dX1_join_89 : decode cX1_join 89 = .ok (.iload_n 3, 1) := by decide +kernel
theorem dX1_join_90 : decode cX1_join 90 = .ok (.if_icmp .eq 7, 3) := by decide +kernel
theorem dX1_join_93 : decode cX1_join 93 = .ok (.iconst 3, 1) := by decide +kernel
theorem dX1_join_94 : decode cX1_join 94 = .ok (.goto 7, 3) := by decide +kernel
theorem dX1_join_97 : decode cX1_join 97 = .ok (.aload_n 0, 1) := by decide +kernel
theorem dX1_join_98 : decode cX1_join 98 = .ok (.getfield 38, 3) := by decide +kernel
theorem dX1_join_101 : decode cX1_join 101 = .ok (.putfield 38, 3) := by decide +kernel
theorem dX1_join_104 : decode cX1_join 104 = .ok (.iload 7, 2) := by decide +kernel
theorem dX1_join_106 : decode cX1_join 106 = .ok (.ifCond .ge 10, 3) := by decide +kernel
theorem dX1_join_109 : decode cX1_join 109 = .ok (.iload 5, 2) := by decide +kernel
theorem dX1_join_111 : decode cX1_join 111 = .ok (.iconst 1, 1) := by decide +kernel
theorem dX1_join_112 : decode cX1_join 112 = .ok (.iadd, 1) := by decide +kernel
theorem dX1_join_113 : decode cX1_join 113 = .ok (.goto 5, 3) := by decide +kernel
theorem dX1_join_116 : decode cX1_join 116 = .ok (.iload 5, 2) := by decide +kernel
theorem dX1_join_118 : decode cX1_join 118 = .ok (.istore 5, 2) := by decide +kernel
theorem dX1_join_120 : decode cX1_join 120 = .ok (.iinc 6 1, 3) := by decide +kernel
theorem dX1_join_123 : decode cX1_join 123 = .ok (.goto (-58), 3) := by decide +kernel
theorem dX1_join_126 : decode cX1_join 126 = .ok (.aload_n 0, 1) := by decide +kernel
theorem dX1_join_127 : decode cX1_join 127 = .ok (.getfield 38, 3) := by decide +kernel
theorem dX1_join_130 : decode cX1_join 130 = .ok (.ifCond .le 5, 3) := by decide +kernel
theorem dX1_join_133 : decode cX1_join 133 = .ok (.iconst 0, 1) := by decide +kernel
theorem dX1_join_134 : decode cX1_join 134 = .ok (.ireturn, 1) := by decide +kernel
theorem dX1_join_135 : decode cX1_join 135 = .ok (.iload_n 1, 1) := by decide +kernel
theorem dX1_join_136 : decode cX1_join 136 = .ok (.istore 6, 2) := by decide +kernel
theorem dX1_join_138 : decode cX1_join 138 = .ok (.iload 6, 2) := by decide +kernel
theorem dX1_join_140 : decode cX1_join 140 = .ok (.iload_n 2, 1) := by decide +kernel
theorem dX1_join_141 : decode cX1_join 141 = .ok (.if_icmp .ge 25, 3) := by decide +kernel
theorem dX1_join_144 : decode cX1_join 144 = .ok (.aload_n 0, 1) := by decide +kernel
theorem dX1_join_145 : decode cX1_join 145 = .ok (.getfield 17, 3) := by decide +kernel
theorem dX1_join_148 : decode cX1_join 148 = .ok (.bipush 60, 2) := by decide +kernel
theorem dX1_join_150 : decode cX1_join 150 = .ok (.iload 4, 2) := by decide +kernel
theorem dX1_join_152 : decode cX1_join 152 = .ok (.imul, 1) := by decide +kernel
theorem dX1_join_153 : decode cX1_join 153 = .ok (.iload 6, 2) := by decide +kernel
theorem dX1_join_155 : decode cX1_join 155 = .ok (.iadd, 1) := by decide +kernel
theorem dX1_join_156 : decode cX1_join 156 = .ok (.iload_n 3, 1) := by decide +kernel
theorem dX1_join_157 : decode cX1_join 157 = .ok (.iconst 1, 1) := by decide +kernel
theorem dX1_join_158 : decode cX1_join 158 = .ok (.iadd, 1) := by decide +kernel
theorem dX1_join_159 : decode cX1_join 159 = .ok (.iastore, 1) := by decide +kernel
theorem dX1_join_160 : decode cX1_join 160 = .ok (.iinc 6 1, 3) := by decide +kernel
theorem dX1_join_163 : decode cX1_join 163 = .ok (.goto (-25), 3) := by decide +kernel
theorem dX1_join_166 : decode cX1_join 166 = .ok (.iload 5, 2) := by decide +kernel
theorem dX1_join_168 : decode cX1_join 168 = .ok (.ireturn, 1) := by decide +kernel
theorem dX1_isRun_0 : decode cX1_isRun 0 = .ok (.iload_n 0, 1) := by decide +kernel
theorem dX1_isRun_1 : decode cX1_isRun 1 = .ok (.ifCond .lt 18, 3) := by decide +kernel
theorem dX1_isRun_4 : decode cX1_isRun 4 = .ok (.iload_n 0, 1) := by decide +kernel
theorem dX1_isRun_5 : decode cX1_isRun 5 = .ok (.iload_n 1, 1) := by decide +kernel
theorem dX1_isRun_6 : decode cX1_isRun 6 = .ok (.if_icmp .ge 13, 3) := by decide +kernel
theorem dX1_isRun_9 : decode cX1_isRun 9 = .ok (.iload_n 1, 1) := by decide +kernel
theorem dX1_isRun_10 : decode cX1_isRun 10 = .ok (.bipush 60, 2) := by decide +kernel
theorem dX1_isRun_12 : decode cX1_isRun 12 = .ok (.if_icmp .gt 7, 3) := by decide +kernel
theorem dX1_isRun_15 : decode cX1_isRun 15 = .ok (.iconst 1, 1) := by decide +kernel
theorem dX1_isRun_16 : decode cX1_isRun 16 = .ok (.goto 4, 3) := by decide +kernel
theorem dX1_isRun_19 : decode cX1_isRun 19 = .ok (.iconst 0, 1) := by decide +kernel
theorem dX1_isRun_20 : decode cX1_isRun 20 = .ok (.ireturn, 1) := by decide +kernel
theorem dX1_isNode_0 : decode cX1_isNode 0 = .ok (.iload_n 1, 1) := by decide +kernel
theorem dX1_isNode_1 : decode cX1_isNode 1 = .ok (.ifCond .lt 15, 3) := by decide +kernel
theorem dX1_isNode_4 : decode cX1_isNode 4 = .ok (.iload_n 1, 1) := by decide +kernel
theorem dX1_isNode_5 : decode cX1_isNode 5 = .ok (.aload_n 0, 1) := by decide +kernel
theorem dX1_isNode_6 : decode cX1_isNode 6 = .ok (.getfield 42, 3) := by decide +kernel
theorem dX1_isNode_9 : decode cX1_isNode 9 = .ok (.if_icmp .ge 7, 3) := by decide +kernel
theorem dX1_isNode_12 : decode cX1_isNode 12 = .ok (.iconst 1, 1) := by decide +kernel
theorem dX1_isNode_13 : decode cX1_isNode 13 = .ok (.goto 4, 3) := by decide +kernel
theorem dX1_isNode_16 : decode cX1_isNode 16 = .ok (.iconst 0, 1) := by decide +kernel
theorem dX1_isNode_17 : decode cX1_isNode 17 = .ok (.ireturn, 1) := by decide +kernel
theorem dX1_up_0 : decode cX1_up 0 = .ok (.aload_n 0, 1) := by decide +kernel
theorem dX1_up_1 : decode cX1_up 1 = .ok (.getfield 17, 3) := by decide +kernel
theorem dX1_up_4 : decode cX1_up 4 = .ok (.bipush 60, 2) := by decide +kernel
theorem dX1_up_6 : decode cX1_up 6 = .ok (.iload_n 1, 1) := by decide +kernel
theorem dX1_up_7 : decode cX1_up 7 = .ok (.imul, 1) := by decide +kernel
theorem dX1_up_8 : decode cX1_up 8 = .ok (.iload_n 2, 1) := by decide +kernel
theorem dX1_up_9 : decode cX1_up 9 = .ok (.iadd, 1) := by decide +kernel
theorem dX1_up_10 : decode cX1_up 10 = .ok (.iaload, 1) := by decide +kernel
theorem dX1_up_11 : decode cX1_up 11 = .ok (.iconst 1, 1) := by decide +kernel
theorem dX1_up_12 : decode cX1_up 12 = .ok (.isub, 1) := by decide +kernel
theorem dX1_up_13 : decode cX1_up 13 = .ok (.ireturn, 1) := by decide +kernel
theorem dX1_part_0 : decode cX1_part 0 = .ok (.aload_n 0, 1) := by decide +kernel
theorem dX1_part_1 : decode cX1_part 1 = .ok (.iload_n 1, 1) := by decide +kernel
theorem dX1_part_2 : decode cX1_part 2 = .ok (.iload_n 2, 1) := by decide +kernel
theorem dX1_part_3 : decode cX1_part 3 = .ok (.invokestatic 67, 3) := by decide +kernel
theorem dX1_part_6 : decode cX1_part 6 = .ok (.ifCond .eq 11, 3) := by decide +kernel
theorem dX1_part_9 : decode cX1_part 9 = .ok (.aload_n 0, 1) := by decide +kernel
theorem dX1_part_10 : decode cX1_part 10 = .ok (.iload_n 3, 1) := by decide +kernel
theorem dX1_part_11 : decode cX1_part 11 = .ok (.invokevirtual 70, 3) := by decide +kernel
theorem dX1_part_14 : decode cX1_part 14 = .ok (.ifCond .ne 7, 3) := by decide +kernel
theorem dX1_part_17 : decode cX1_part 17 = .ok (.iconst 1, 1) := by decide +kernel
theorem dX1_part_18 : decode cX1_part 18 = .ok (.goto 4, 3) := by decide +kernel
theorem dX1_part_21 : decode cX1_part 21 = .ok (.iconst 0, 1) := by decide +kernel
theorem dX1_part_22 : decode cX1_part 22 = .ok (.invokevirtual 63, 3) := by decide +kernel
theorem dX1_part_25 : decode cX1_part 25 = .ok (.ifCond .eq 5, 3) := by decide +kernel
theorem dX1_part_28 : decode cX1_part 28 = .ok (.iconst 0, 1) := by decide +kernel
theorem dX1_part_29 : decode cX1_part 29 = .ok (.ireturn, 1) := by decide +kernel
theorem dX1_part_30 : decode cX1_part 30 = .ok (.iconst 0, 1) := by decide +kernel
theorem dX1_part_31 : decode cX1_part 31 = .ok (.istore 4, 2) := by decide +kernel
theorem dX1_part_33 : decode cX1_part 33 = .ok (.iload_n 1, 1) := by decide +kernel
theorem dX1_part_34 : decode cX1_part 34 = .ok (.istore 5, 2) := by decide +kernel
theorem dX1_part_36 : decode cX1_part 36 = .ok (.iload 5, 2) := by decide +kernel
theorem dX1_part_38 : decode cX1_part 38 = .ok (.iload_n 2, 1) := by decide +kernel
theorem dX1_part_39 : decode cX1_part 39 = .ok (.if_icmp .ge 43, 3) := by decide +kernel
theorem dX1_part_42 : decode cX1_part 42 = .ok (.aload_n 0, 1) := by decide +kernel
theorem dX1_part_43 : decode cX1_part 43 = .ok (.iload_n 3, 1) := by decide +kernel
theorem dX1_part_44 : decode cX1_part 44 = .ok (.iload 5, 2) := by decide +kernel
theorem dX1_part_46 : decode cX1_part 46 = .ok (.invokevirtual 48, 3) := by decide +kernel
theorem dX1_part_49 : decode cX1_part 49 = .ok (.ifCond .lt 10, 3) := by decide +kernel
theorem dX1_part_52 : decode cX1_part 52 = .ok (.iload 4, 2) := by decide +kernel
theorem dX1_part_54 : decode cX1_part 54 = .ok (.iconst 1, 1) := by decide +kernel
theorem dX1_part_55 : decode cX1_part 55 = .ok (.iadd, 1) := by decide +kernel
theorem dX1_part_56 : decode cX1_part 56 = .ok (.goto 5, 3) := by decide +kernel
theorem dX1_part_59 : decode cX1_part 59 = .ok (.iload 4, 2) := by decide +kernel
theorem dX1_part_61 : decode cX1_part 61 = .ok (.istore 4, 2) := by decide +kernel
theorem dX1_part_63 : decode cX1_part 63 = .ok (.aload_n 0, 1) := by decide +kernel
theorem dX1_part_64 : decode cX1_part 64 = .ok (.getfield 17, 3) := by decide +kernel
theorem dX1_part_67 : decode cX1_part 67 = .ok (.bipush 60, 2) := by decide +kernel
theorem dX1_part_69 : decode cX1_part 69 = .ok (.iload_n 3, 1) := by decide +kernel
theorem dX1_part_70 : decode cX1_part 70 = .ok (.imul, 1) := by decide +kernel
theorem dX1_part_71 : decode cX1_part 71 = .ok (.iload 5, 2) := by decide +kernel
theorem dX1_part_73 : decode cX1_part 73 = .ok (.iadd, 1) := by decide +kernel
theorem dX1_part_74 : decode cX1_part 74 = .ok (.iconst 0, 1) := by decide +kernel
theorem dX1_part_75 : decode cX1_part 75 = .ok (.iastore, 1) := by decide +kernel
theorem dX1_part_76 : decode cX1_part 76 = .ok (.iinc 5 1, 3) := by decide +kernel
theorem dX1_part_79 : decode cX1_part 79 = .ok (.goto (-43), 3) := by decide +kernel
theorem dX1_part_82 : decode cX1_part 82 = .ok (.iload 4, 2) := by decide +kernel
theorem dX1_part_84 : decode cX1_part 84 = .ok (.ireturn, 1) := by decide +kernel
theorem dX1_site_0 : decode cX1_site 0 = .ok (.aload_n 0, 1) := by decide +kernel
theorem dX1_site_1 : decode cX1_site 1 = .ok (.iload_n 1, 1) := by decide +kernel
theorem dX1_site_2 : decode cX1_site 2 = .ok (.invokestatic 73, 3) := by decide +kernel
theorem dX1_site_5 : decode cX1_site 5 = .ok (.ifCond .ne 7, 3) := by decide +kernel
theorem dX1_site_8 : decode cX1_site 8 = .ok (.iconst 1, 1) := by decide +kernel
theorem dX1_site_9 : decode cX1_site 9 = .ok (.goto 38, 3) := by decide +kernel
theorem dX1_site_12 : decode cX1_site 12 = .ok (.iload_n 2, 1) := by decide +kernel
theorem dX1_site_13 : decode cX1_site 13 = .ok (.ifCond .lt 16, 3) := by decide +kernel
theorem dX1_site_16 : decode cX1_site 16 = .ok (.iload_n 2, 1) := by decide +kernel
theorem dX1_site_17 : decode cX1_site 17 = .ok (.iconst 3, 1) := by decide +kernel
theorem dX1_site_18 : decode cX1_site 18 = .ok (.if_icmp .gt 11, 3) := by decide +kernel
theorem dX1_site_21 : decode cX1_site 21 = .ok (.aload_n 0, 1) := by decide +kernel
theorem dX1_site_22 : decode cX1_site 22 = .ok (.iload_n 1, 1) := by decide +kernel
theorem dX1_site_23 : decode cX1_site 23 = .ok (.invokevirtual 76, 3) := by decide +kernel
theorem dX1_site_26 : decode cX1_site 26 = .ok (.ifCond .eq 7, 3) := by decide +kernel
theorem dX1_site_29 : decode cX1_site 29 = .ok (.iconst 2, 1) := by decide +kernel
theorem dX1_site_30 : decode cX1_site 30 = .ok (.goto 17, 3) := by decide +kernel
theorem dX1_site_33 : decode cX1_site 33 = .ok (.aload_n 0, 1) := by decide +kernel
theorem dX1_site_34 : decode cX1_site 34 = .ok (.getfield 45, 3) := by decide +kernel
theorem dX1_site_37 : decode cX1_site 37 = .ok (.bipush 8, 2) := by decide +kernel
theorem dX1_site_39 : decode cX1_site 39 = .ok (.if_icmp .ne 7, 3) := by decide +kernel
theorem dX1_site_42 : decode cX1_site 42 = .ok (.iconst 3, 1) := by decide +kernel
theorem dX1_site_43 : decode cX1_site 43 = .ok (.goto 4, 3) := by decide +kernel
theorem dX1_site_46 : decode cX1_site 46 = .ok (.iconst 0, 1) := by decide +kernel
theorem dX1_site_47 : decode cX1_site 47 = .ok (.invokevirtual 63, 3) := by decide +kernel
theorem dX1_site_50 : decode cX1_site 50 = .ok (.ifCond .eq 5, 3) := by decide +kernel
theorem dX1_site_53 : decode cX1_site 53 = .ok (.iconst 0, 1) := by decide +kernel
theorem dX1_site_54 : decode cX1_site 54 = .ok (.ireturn, 1) := by decide +kernel
theorem dX1_site_55 : decode cX1_site 55 = .ok (.aload_n 0, 1) := by decide +kernel
theorem dX1_site_56 : decode cX1_site 56 = .ok (.getfield 20, 3) := by decide +kernel
theorem dX1_site_59 : decode cX1_site 59 = .ok (.aload_n 0, 1) := by decide +kernel
theorem dX1_site_60 : decode cX1_site 60 = .ok (.getfield 45, 3) := by decide +kernel
theorem dX1_site_63 : decode cX1_site 63 = .ok (.iload_n 1, 1) := by decide +kernel
theorem dX1_site_64 : decode cX1_site 64 = .ok (.iastore, 1) := by decide +kernel
theorem dX1_site_65 : decode cX1_site 65 = .ok (.aload_n 0, 1) := by decide +kernel
theorem dX1_site_66 : decode cX1_site 66 = .ok (.getfield 23, 3) := by decide +kernel
theorem dX1_site_69 : decode cX1_site 69 = .ok (.aload_n 0, 1) := by decide +kernel
theorem dX1_site_70 : decode cX1_site 70 = .ok (.getfield 45, 3) := by decide +kernel
theorem dX1_site_73 : decode cX1_site 73 = .ok (.iload_n 2, 1) := by decide +kernel
theorem dX1_site_74 : decode cX1_site 74 = .ok (.iastore, 1) := by decide +kernel
theorem dX1_site_75 : decode cX1_site 75 = .ok (.aload_n 0, 1) := by decide +kernel
theorem dX1_site_76 : decode cX1_site 76 = .ok (.dup, 1) := by decide +kernel
theorem dX1_site_77 : decode cX1_site 77 = .ok (.getfield 45, 3) := by decide +kernel
theorem dX1_site_80 : decode cX1_site 80 = .ok (.iconst 1, 1) := by decide +kernel
theorem dX1_site_81 : decode cX1_site 81 = .ok (.iadd, 1) := by decide +kernel
theorem dX1_site_82 : decode cX1_site 82 = .ok (.putfield 45, 3) := by decide +kernel
theorem dX1_site_85 : decode cX1_site 85 = .ok (.aload_n 0, 1) := by decide +kernel
theorem dX1_site_86 : decode cX1_site 86 = .ok (.getfield 45, 3) := by decide +kernel
theorem dX1_site_89 : decode cX1_site 89 = .ok (.iconst 1, 1) := by decide +kernel
theorem dX1_site_90 : decode cX1_site 90 = .ok (.isub, 1) := by decide +kernel
theorem dX1_site_91 : decode cX1_site 91 = .ok (.ireturn, 1) := by decide +kernel
theorem dX1_isPlace_0 : decode cX1_isPlace 0 = .ok (.iload_n 0, 1) := by decide +kernel
theorem dX1_isPlace_1 : decode cX1_isPlace 1 = .ok (.ifCond .lt 13, 3) := by decide +kernel
theorem dX1_isPlace_4 : decode cX1_isPlace 4 = .ok (.iload_n 0, 1) := by decide +kernel
theorem dX1_isPlace_5 : decode cX1_isPlace 5 = .ok (.bipush 60, 2) := by decide +kernel
theorem dX1_isPlace_7 : decode cX1_isPlace 7 = .ok (.if_icmp .ge 7, 3) := by decide +kernel
theorem dX1_isPlace_10 : decode cX1_isPlace 10 = .ok (.iconst 1, 1) := by decide +kernel
theorem dX1_isPlace_11 : decode cX1_isPlace 11 = .ok (.goto 4, 3) := by decide +kernel
theorem dX1_isPlace_14 : decode cX1_isPlace 14 = .ok (.iconst 0, 1) := by decide +kernel
theorem dX1_isPlace_15 : decode cX1_isPlace 15 = .ok (.ireturn, 1) := by decide +kernel
theorem dX1_isTaken_0 : decode cX1_isTaken 0 = .ok (.iconst 0, 1) := by decide +kernel
theorem dX1_isTaken_1 : decode cX1_isTaken 1 = .ok (.istore_n 2, 1) := by decide +kernel
theorem dX1_isTaken_2 : decode cX1_isTaken 2 = .ok (.iconst 0, 1) := by decide +kernel
theorem dX1_isTaken_3 : decode cX1_isTaken 3 = .ok (.istore_n 3, 1) := by decide +kernel
theorem dX1_isTaken_4 : decode cX1_isTaken 4 = .ok (.iload_n 3, 1) := by decide +kernel
theorem dX1_isTaken_5 : decode cX1_isTaken 5 = .ok (.aload_n 0, 1) := by decide +kernel
theorem dX1_isTaken_6 : decode cX1_isTaken 6 = .ok (.getfield 45, 3) := by decide +kernel
theorem dX1_isTaken_9 : decode cX1_isTaken 9 = .ok (.if_icmp .ge 29, 3) := by decide +kernel
theorem dX1_isTaken_12 : decode cX1_isTaken 12 = .ok (.iload_n 2, 1) := by decide +kernel
theorem dX1_isTaken_13 : decode cX1_isTaken 13 = .ok (.ifCond .ne 13, 3) := by decide +kernel
theorem dX1_isTaken_16 : decode cX1_isTaken 16 = .ok (.aload_n 0, 1) := by decide +kernel
theorem dX1_isTaken_17 : decode cX1_isTaken 17 = .ok (.getfield 20, 3) := by decide +kernel
theorem dX1_isTaken_20 : decode cX1_isTaken 20 = .ok (.iload_n 3, 1) := by decide +kernel
theorem dX1_isTaken_21 : decode cX1_isTaken 21 = .ok (.iaload, 1) := by decide +kernel
theorem dX1_isTaken_22 : decode cX1_isTaken 22 = .ok (.iload_n 1, 1) := by decide +kernel
theorem dX1_isTaken_23 : decode cX1_isTaken 23 = .ok (.if_icmp .ne 7, 3) := by decide +kernel
theorem dX1_isTaken_26 : decode cX1_isTaken 26 = .ok (.iconst 1, 1) := by decide +kernel
theorem dX1_isTaken_27 : decode cX1_isTaken 27 = .ok (.goto 4, 3) := by decide +kernel
theorem dX1_isTaken_30 : decode cX1_isTaken 30 = .ok (.iconst 0, 1) := by decide +kernel
theorem dX1_isTaken_31 : decode cX1_isTaken 31 = .ok (.istore_n 2, 1) := by decide +kernel
theorem dX1_isTaken_32 : decode cX1_isTaken 32 = .ok (.iinc 3 1, 3) := by decide +kernel
theorem dX1_isTaken_35 : decode cX1_isTaken 35 = .ok (.goto (-31), 3) := by decide +kernel
theorem dX1_isTaken_38 : decode cX1_isTaken 38 = .ok (.iload_n 2, 1) := by decide +kernel
theorem dX1_isTaken_39 : decode cX1_isTaken 39 = .ok (.ireturn, 1) := by decide +kernel
theorem dX1_mutate_0 : decode cX1_mutate 0 = .ok (.aload_n 0, 1) := by decide +kernel
theorem dX1_mutate_1 : decode cX1_mutate 1 = .ok (.aload_n 0, 1) := by decide +kernel
theorem dX1_mutate_2 : decode cX1_mutate 2 = .ok (.iload_n 1, 1) := by decide +kernel
theorem dX1_mutate_3 : decode cX1_mutate 3 = .ok (.invokevirtual 79, 3) := by decide +kernel
theorem dX1_mutate_6 : decode cX1_mutate 6 = .ok (.ifCond .eq 11, 3) := by decide +kernel
theorem dX1_mutate_9 : decode cX1_mutate 9 = .ok (.aload_n 0, 1) := by decide +kernel
theorem dX1_mutate_10 : decode cX1_mutate 10 = .ok (.iload_n 2, 1) := by decide +kernel
theorem dX1_mutate_11 : decode cX1_mutate 11 = .ok (.invokevirtual 70, 3) := by decide +kernel
theorem dX1_mutate_14 : decode cX1_mutate 14 = .ok (.ifCond .ne 7, 3) := by decide +kernel
theorem dX1_mutate_17 : decode cX1_mutate 17 = .ok (.iconst 1, 1) := by decide +kernel
theorem dX1_mutate_18 : decode cX1_mutate 18 = .ok (.goto 18, 3) := by decide +kernel
theorem dX1_mutate_21 : decode cX1_mutate 21 = .ok (.iload_n 3, 1) := by decide +kernel
theorem dX1_mutate_22 : decode cX1_mutate 22 = .ok (.iconst (-1), 1) := by decide +kernel
theorem dX1_mutate_23 : decode cX1_mutate 23 = .ok (.if_icmp .lt 8, 3) := by decide +kernel
theorem dX1_mutate_26 : decode cX1_mutate 26 = .ok (.iload_n 3, 1) := by decide +kernel
theorem dX1_mutate_27 : decode cX1_mutate 27 = .ok (.iconst 3, 1) := by decide +kernel
theorem dX1_mutate_28 : decode cX1_mutate 28 = .ok (.if_icmp .le 7, 3) := by decide +kernel
theorem dX1_mutate_31 : decode cX1_mutate 31 = .ok (.iconst 2, 1) := by decide +kernel
theorem dX1_mutate_32 : decode cX1_mutate 32 = .ok (.goto 4, 3) := by decide +kernel
theorem dX1_mutate_35 : decode cX1_mutate 35 = .ok (.iconst 0, 1) := by decide +kernel
theorem dX1_mutate_36 : decode cX1_mutate 36 = .ok (.invokevirtual 63, 3) := by decide +kernel
theorem dX1_mutate_39 : decode cX1_mutate 39 = .ok (.ifCond .eq 5, 3) := by decide +kernel
theorem dX1_mutate_42 : decode cX1_mutate 42 = .ok (.iconst 0, 1) := by decide +kernel
theorem dX1_mutate_43 : decode cX1_mutate 43 = .ok (.ireturn, 1) := by decide +kernel
theorem dX1_mutate_44 : decode cX1_mutate 44 = .ok (.aload_n 0, 1) := by decide +kernel
theorem dX1_mutate_45 : decode cX1_mutate 45 = .ok (.getfield 26, 3) := by decide +kernel
theorem dX1_mutate_48 : decode cX1_mutate 48 = .ok (.bipush 14, 2) := by decide +kernel
theorem dX1_mutate_50 : decode cX1_mutate 50 = .ok (.iload_n 1, 1) := by decide +kernel
theorem dX1_mutate_51 : decode cX1_mutate 51 = .ok (.imul, 1) := by decide +kernel
theorem dX1_mutate_52 : decode cX1_mutate 52 = .ok (.iload_n 2, 1) := by decide +kernel
theorem dX1_mutate_53 : decode cX1_mutate 53 = .ok (.iadd, 1) := by decide +kernel
theorem dX1_mutate_54 : decode cX1_mutate 54 = .ok (.iaload, 1) := by decide +kernel
theorem dX1_mutate_55 : decode cX1_mutate 55 = .ok (.iconst 1, 1) := by decide +kernel
theorem dX1_mutate_56 : decode cX1_mutate 56 = .ok (.isub, 1) := by decide +kernel
theorem dX1_mutate_57 : decode cX1_mutate 57 = .ok (.istore 4, 2) := by decide +kernel
theorem dX1_mutate_59 : decode cX1_mutate 59 = .ok (.aload_n 0, 1) := by decide +kernel
theorem dX1_mutate_60 : decode cX1_mutate 60 = .ok (.getfield 26, 3) := by decide +kernel
theorem dX1_mutate_63 : decode cX1_mutate 63 = .ok (.bipush 14, 2) := by decide +kernel
theorem dX1_mutate_65 : decode cX1_mutate 65 = .ok (.iload_n 1, 1) := by decide +kernel
theorem dX1_mutate_66 : decode cX1_mutate 66 = .ok (.imul, 1) := by decide +kernel
theorem dX1_mutate_67 : decode cX1_mutate 67 = .ok (.iload_n 2, 1) := by decide +kernel
theorem dX1_mutate_68 : decode cX1_mutate 68 = .ok (.iadd, 1) := by decide +kernel
theorem dX1_mutate_69 : decode cX1_mutate 69 = .ok (.iload_n 3, 1) := by decide +kernel
theorem dX1_mutate_70 : decode cX1_mutate 70 = .ok (.iconst 1, 1) := by decide +kernel
theorem dX1_mutate_71 : decode cX1_mutate 71 = .ok (.iadd, 1) := by decide +kernel
theorem dX1_mutate_72 : decode cX1_mutate 72 = .ok (.iastore, 1) := by decide +kernel
theorem dX1_mutate_73 : decode cX1_mutate 73 = .ok (.iload 4, 2) := by decide +kernel
theorem dX1_mutate_75 : decode cX1_mutate 75 = .ok (.ireturn, 1) := by decide +kernel
theorem dX1_isSite_0 : decode cX1_isSite 0 = .ok (.iload_n 1, 1) := by decide +kernel
theorem dX1_isSite_1 : decode cX1_isSite 1 = .ok (.ifCond .lt 15, 3) := by decide +kernel
theorem dX1_isSite_4 : decode cX1_isSite 4 = .ok (.iload_n 1, 1) := by decide +kernel
theorem dX1_isSite_5 : decode cX1_isSite 5 = .ok (.aload_n 0, 1) := by decide +kernel
theorem dX1_isSite_6 : decode cX1_isSite 6 = .ok (.getfield 45, 3) := by decide +kernel
theorem dX1_isSite_9 : decode cX1_isSite 9 = .ok (.if_icmp .ge 7, 3) := by decide +kernel
theorem dX1_isSite_12 : decode cX1_isSite 12 = .ok (.iconst 1, 1) := by decide +kernel
theorem dX1_isSite_13 : decode cX1_isSite 13 = .ok (.goto 4, 3) := by decide +kernel
theorem dX1_isSite_16 : decode cX1_isSite 16 = .ok (.iconst 0, 1) := by decide +kernel
theorem dX1_isSite_17 : decode cX1_isSite 17 = .ok (.ireturn, 1) := by decide +kernel
theorem dX1_count_0 : decode cX1_count 0 = .ok (.aload_n 0, 1) := by decide +kernel
theorem dX1_count_1 : decode cX1_count 1 = .ok (.iconst 0, 1) := by decide +kernel
theorem dX1_count_2 : decode cX1_count 2 = .ok (.putfield 38, 3) := by decide +kernel
theorem dX1_count_5 : decode cX1_count 5 = .ok (.iconst 0, 1) := by decide +kernel
theorem dX1_count_6 : decode cX1_count 6 = .ok (.istore_n 2, 1) := by decide +kernel
theorem dX1_count_7 : decode cX1_count 7 = .ok (.iload_n 1, 1) := by decide +kernel
theorem dX1_count_8 : decode cX1_count 8 = .ok (.tableswitch 116 0 4 #[36, 41, 46, 52, 57], 36) := by decide +kernel
theorem dX1_count_44 : decode cX1_count 44 = .ok (.aload_n 0, 1) := by decide +kernel
theorem dX1_count_45 : decode cX1_count 45 = .ok (.getfield 42, 3) := by decide +kernel
theorem dX1_count_48 : decode cX1_count 48 = .ok (.ireturn, 1) := by decide +kernel
theorem dX1_count_49 : decode cX1_count 49 = .ok (.aload_n 0, 1) := by decide +kernel
theorem dX1_count_50 : decode cX1_count 50 = .ok (.invokevirtual 94, 3) := by decide +kernel
theorem dX1_count_53 : decode cX1_count 53 = .ok (.ireturn, 1) := by decide +kernel
theorem dX1_count_54 : decode cX1_count 54 = .ok (.aload_n 0, 1) := by decide +kernel
theorem dX1_count_55 : decode cX1_count 55 = .ok (.iconst (-1), 1) := by decide +kernel
theorem dX1_count_56 : decode cX1_count 56 = .ok (.invokevirtual 98, 3) := by decide +kernel
theorem dX1_count_59 : decode cX1_count 59 = .ok (.ireturn, 1) := by decide +kernel
theorem dX1_count_60 : decode cX1_count 60 = .ok (.aload_n 0, 1) := by decide +kernel
theorem dX1_count_61 : decode cX1_count 61 = .ok (.getfield 45, 3) := by decide +kernel
theorem dX1_count_64 : decode cX1_count 64 = .ok (.ireturn, 1) := by decide +kernel
theorem dX1_count_65 : decode cX1_count 65 = .ok (.iconst 0, 1) := by decide +kernel
theorem dX1_count_66 : decode cX1_count 66 = .ok (.istore_n 3, 1) := by decide +kernel
theorem dX1_count_67 : decode cX1_count 67 = .ok (.iload_n 3, 1) := by decide +kernel
theorem dX1_count_68 : decode cX1_count 68 = .ok (.aload_n 0, 1) := by decide +kernel
theorem dX1_count_69 : decode cX1_count 69 = .ok (.getfield 45, 3) := by decide +kernel
theorem dX1_count_72 : decode cX1_count 72 = .ok (.if_icmp .ge 50, 3) := by decide +kernel
theorem dX1_count_75 : decode cX1_count 75 = .ok (.iconst 0, 1) := by decide +kernel
theorem dX1_count_76 : decode cX1_count 76 = .ok (.istore 4, 2) := by decide +kernel
theorem dX1_count_78 : decode cX1_count 78 = .ok (.iload 4, 2) := by decide +kernel
theorem dX1_count_80 : decode cX1_count 80 = .ok (.aload_n 0, 1) := by decide +kernel
theorem dX1_count_81 : decode cX1_count 81 = .ok (.getfield 42, 3) := by decide +kernel
theorem dX1_count_84 : decode cX1_count 84 = .ok (.if_icmp .ge 32, 3) := by decide +kernel
theorem dX1_count_87 : decode cX1_count 87 = .ok (.aload_n 0, 1) := by decide +kernel
theorem dX1_count_88 : decode cX1_count 88 = .ok (.getfield 26, 3) := by decide +kernel
theorem dX1_count_91 : decode cX1_count 91 = .ok (.bipush 14, 2) := by decide +kernel
theorem dX1_count_93 : decode cX1_count 93 = .ok (.iload_n 3, 1) := by decide +kernel
theorem dX1_count_94 : decode cX1_count 94 = .ok (.imul, 1) := by decide +kernel
theorem dX1_count_95 : decode cX1_count 95 = .ok (.iload 4, 2) := by decide +kernel
theorem dX1_count_97 : decode cX1_count 97 = .ok (.iadd, 1) := by decide +kernel
theorem dX1_count_98 : decode cX1_count 98 = .ok (.iaload, 1) := by decide +kernel
theorem dX1_count_99 : decode cX1_count 99 = .ok (.ifCond .le 9, 3) := by decide +kernel
theorem dX1_count_102 : decode cX1_count 102 = .ok (.iload_n 2, 1) := by decide +kernel
theorem dX1_count_103 : decode cX1_count 103 = .ok (.iconst 1, 1) := by decide +kernel
theorem dX1_count_104 : decode cX1_count 104 = .ok (.iadd, 1) := by decide +kernel
theorem dX1_count_105 : decode cX1_count 105 = .ok (.goto 4, 3) := by decide +kernel
theorem dX1_count_108 : decode cX1_count 108 = .ok (.iload_n 2, 1) := by decide +kernel
theorem dX1_count_109 : decode cX1_count 109 = .ok (.istore_n 2, 1) := by decide +kernel
theorem dX1_count_110 : decode cX1_count 110 = .ok (.iinc 4 1, 3) := by decide +kernel
theorem dX1_count_113 : decode cX1_count 113 = .ok (.goto (-35), 3) := by decide +kernel
theorem dX1_count_116 : decode cX1_count 116 = .ok (.iinc 3 1, 3) := by decide +kernel
theorem dX1_count_119 : decode cX1_count 119 = .ok (.goto (-52), 3) := by decide +kernel
theorem dX1_count_122 : decode cX1_count 122 = .ok (.iload_n 2, 1) := by decide +kernel
theorem dX1_count_123 : decode cX1_count 123 = .ok (.ireturn, 1) := by decide +kernel
theorem dX1_count_124 : decode cX1_count 124 = .ok (.iconst (-1), 1) := by decide +kernel
theorem dX1_count_125 : decode cX1_count 125 = .ok (.ireturn, 1) := by decide +kernel
theorem dX1_samples_0 : decode cX1_samples 0 = .ok (.iconst 0, 1) := by decide +kernel
theorem dX1_samples_1 : decode cX1_samples 1 = .ok (.istore_n 1, 1) := by decide +kernel
theorem dX1_samples_2 : decode cX1_samples 2 = .ok (.iconst 0, 1) := by decide +kernel
theorem dX1_samples_3 : decode cX1_samples 3 = .ok (.istore_n 2, 1) := by decide +kernel
theorem dX1_samples_4 : decode cX1_samples 4 = .ok (.iload_n 2, 1) := by decide +kernel
theorem dX1_samples_5 : decode cX1_samples 5 = .ok (.aload_n 0, 1) := by decide +kernel
theorem dX1_samples_6 : decode cX1_samples 6 = .ok (.getfield 42, 3) := by decide +kernel
theorem dX1_samples_9 : decode cX1_samples 9 = .ok (.if_icmp .ge 26, 3) := by decide +kernel
theorem dX1_samples_12 : decode cX1_samples 12 = .ok (.aload_n 0, 1) := by decide +kernel
theorem dX1_samples_13 : decode cX1_samples 13 = .ok (.getfield 13, 3) := by decide +kernel
theorem dX1_samples_16 : decode cX1_samples 16 = .ok (.iload_n 2, 1) := by decide +kernel
theorem dX1_samples_17 : decode cX1_samples 17 = .ok (.baload, 1) := by decide +kernel
theorem dX1_samples_18 : decode cX1_samples 18 = .ok (.ifCond .eq 9, 3) := by decide +kernel
theorem dX1_samples_21 : decode cX1_samples 21 = .ok (.iload_n 1, 1) := by decide +kernel
theorem dX1_samples_22 : decode cX1_samples 22 = .ok (.iconst 1, 1) := by decide +kernel
theorem dX1_samples_23 : decode cX1_samples 23 = .ok (.iadd, 1) := by decide +kernel
theorem dX1_samples_24 : decode cX1_samples 24 = .ok (.goto 4, 3) := by decide +kernel
theorem dX1_samples_27 : decode cX1_samples 27 = .ok (.iload_n 1, 1) := by decide +kernel
theorem dX1_samples_28 : decode cX1_samples 28 = .ok (.istore_n 1, 1) := by decide +kernel
theorem dX1_samples_29 : decode cX1_samples 29 = .ok (.iinc 2 1, 3) := by decide +kernel
theorem dX1_samples_32 : decode cX1_samples 32 = .ok (.goto (-28), 3) := by decide +kernel
theorem dX1_samples_35 : decode cX1_samples 35 = .ok (.iload_n 1, 1) := by decide +kernel
theorem dX1_samples_36 : decode cX1_samples 36 = .ok (.ireturn, 1) := by decide +kernel
theorem dX1_find_0 : decode cX1_find 0 = .ok (.iconst 0, 1) := by decide +kernel
theorem dX1_find_1 : decode cX1_find 1 = .ok (.istore_n 2, 1) := by decide +kernel
theorem dX1_find_2 : decode cX1_find 2 = .ok (.iconst 0, 1) := by decide +kernel
theorem dX1_find_3 : decode cX1_find 3 = .ok (.istore_n 3, 1) := by decide +kernel
theorem dX1_find_4 : decode cX1_find 4 = .ok (.iload_n 3, 1) := by decide +kernel
theorem dX1_find_5 : decode cX1_find 5 = .ok (.sipush 1000, 3) := by decide +kernel
theorem dX1_find_8 : decode cX1_find 8 = .ok (.if_icmp .gt 122, 3) := by decide +kernel
theorem dX1_find_11 : decode cX1_find 11 = .ok (.iconst 0, 1) := by decide +kernel
theorem dX1_find_12 : decode cX1_find 12 = .ok (.istore 4, 2) := by decide +kernel
theorem dX1_find_14 : decode cX1_find 14 = .ok (.iload 4, 2) := by decide +kernel
theorem dX1_find_16 : decode cX1_find 16 = .ok (.aload_n 0, 1) := by decide +kernel
theorem dX1_find_17 : decode cX1_find 17 = .ok (.getfield 42, 3) := by decide +kernel
theorem dX1_find_20 : decode cX1_find 20 = .ok (.if_icmp .ge 104, 3) := by decide +kernel
theorem dX1_find_23 : decode cX1_find 23 = .ok (.iconst 0, 1) := by decide +kernel
theorem dX1_find_24 : decode cX1_find 24 = .ok (.istore 5, 2) := by decide +kernel
theorem dX1_find_26 : decode cX1_find 26 = .ok (.iload 5, 2) := by decide +kernel
theorem dX1_find_28 : decode cX1_find 28 = .ok (.aload_n 0, 1) := by decide +kernel
theorem dX1_find_29 : decode cX1_find 29 = .ok (.getfield 42, 3) := by decide +kernel
theorem dX1_find_32 : decode cX1_find 32 = .ok (.if_icmp .ge 86, 3) := by decide +kernel
theorem dX1_find_35 : decode cX1_find 35 = .ok (.aload_n 0, 1) := by decide +kernel
theorem dX1_find_36 : decode cX1_find 36 = .ok (.getfield 7, 3) := by decide +kernel
theorem dX1_find_39 : decode cX1_find 39 = .ok (.iload 4, 2) := by decide +kernel
theorem dX1_find_41 : decode cX1_find 41 = .ok (.iaload, 1) := by decide +kernel
theorem dX1_find_42 : decode cX1_find 42 = .ok (.iload_n 3, 1) := by decide +kernel
theorem dX1_find_43 : decode cX1_find 43 = .ok (.if_icmp .ne 75, 3) := by decide +kernel
theorem dX1_find_46 : decode cX1_find 46 = .ok (.iconst 0, 1) := by decide +kernel
theorem dX1_find_47 : decode cX1_find 47 = .ok (.istore 6, 2) := by decide +kernel
theorem dX1_find_49 : decode cX1_find 49 = .ok (.iload 6, 2) := by decide +kernel
theorem dX1_find_51 : decode cX1_find 51 = .ok (.bipush 60, 2) := by decide +kernel
theorem dX1_find_53 : decode cX1_find 53 = .ok (.if_icmp .ge 59, 3) := by decide +kernel
theorem dX1_find_56 : decode cX1_find 56 = .ok (.aload_n 0, 1) := by decide +kernel
theorem dX1_find_57 : decode cX1_find 57 = .ok (.iload 5, 2) := by decide +kernel
theorem dX1_find_59 : decode cX1_find 59 = .ok (.iload 6, 2) := by decide +kernel
theorem dX1_find_61 : decode cX1_find 61 = .ok (.invokevirtual 48, 3) := by decide +kernel
theorem dX1_find_64 : decode cX1_find 64 = .ok (.iload 4, 2) := by decide +kernel
theorem dX1_find_66 : decode cX1_find 66 = .ok (.if_icmp .ne 40, 3) := by decide +kernel
theorem dX1_find_69 : decode cX1_find 69 = .ok (.aload_n 0, 1) := by decide +kernel
theorem dX1_find_70 : decode cX1_find 70 = .ok (.iload 5, 2) := by decide +kernel
theorem dX1_find_72 : decode cX1_find 72 = .ok (.iload 6, 2) := by decide +kernel
theorem dX1_find_74 : decode cX1_find 74 = .ok (.invokevirtual 82, 3) := by decide +kernel
theorem dX1_find_77 : decode cX1_find 77 = .ok (.ifCond .eq 29, 3) := by decide +kernel
theorem dX1_find_80 : decode cX1_find 80 = .ok (.iload_n 2, 1) := by decide +kernel
theorem dX1_find_81 : decode cX1_find 81 = .ok (.iload_n 1, 1) := by decide +kernel
theorem dX1_find_82 : decode cX1_find 82 = .ok (.if_icmp .ne 21, 3) := by decide +kernel
theorem dX1_find_85 : decode cX1_find 85 = .ok (.aload_n 0, 1) := by decide +kernel
theorem dX1_find_86 : decode cX1_find 86 = .ok (.iload 6, 2) := by decide +kernel
theorem dX1_find_88 : decode cX1_find 88 = .ok (.putfield 85, 3) := by decide +kernel
theorem dX1_find_91 : decode cX1_find 91 = .ok (.aload_n 0, 1) := by decide +kernel
theorem dX1_find_92 : decode cX1_find 92 = .ok (.iload 4, 2) := by decide +kernel
theorem dX1_find_94 : decode cX1_find 94 = .ok (.putfield 88, 3) := by decide +kernel
theorem dX1_find_97 : decode cX1_find 97 = .ok (.aload_n 0, 1) := by decide +kernel
theorem dX1_find_98 : decode cX1_find 98 = .ok (.iload 5, 2) := by decide +kernel
theorem dX1_find_100 : decode cX1_find 100 = .ok (.putfield 91, 3) := by decide +kernel
theorem dX1_find_103 : decode cX1_find 103 = .ok (.iinc 2 1, 3) := by decide +kernel
theorem dX1_find_106 : decode cX1_find 106 = .ok (.iinc 6 1, 3) := by decide +kernel
theorem dX1_find_109 : decode cX1_find 109 = .ok (.goto (-60), 3) := by decide +kernel
theorem dX1_find_112 : decode cX1_find 112 = .ok (.iinc 5 1, 3) := by decide +kernel
theorem dX1_find_115 : decode cX1_find 115 = .ok (.goto (-89), 3) := by decide +kernel
theorem dX1_find_118 : decode cX1_find 118 = .ok (.iinc 4 1, 3) := by decide +kernel
theorem dX1_find_121 : decode cX1_find 121 = .ok (.goto (-107), 3) := by decide +kernel
theorem dX1_find_124 : decode cX1_find 124 = .ok (.iinc 3 1, 3) := by decide +kernel
theorem dX1_find_127 : decode cX1_find 127 = .ok (.goto (-123), 3) := by decide +kernel
theorem dX1_find_130 : decode cX1_find 130 = .ok (.iload_n 2, 1) := by decide +kernel
theorem dX1_find_131 : decode cX1_find 131 = .ok (.ireturn, 1) := by decide +kernel
theorem dX1_begins_0 : decode cX1_begins 0 = .ok (.aload_n 0, 1) := by decide +kernel
theorem dX1_begins_1 : decode cX1_begins 1 = .ok (.iload_n 1, 1) := by decide +kernel
theorem dX1_begins_2 : decode cX1_begins 2 = .ok (.iload_n 2, 1) := by decide +kernel
theorem dX1_begins_3 : decode cX1_begins 3 = .ok (.invokevirtual 48, 3) := by decide +kernel
theorem dX1_begins_6 : decode cX1_begins 6 = .ok (.ifCond .lt 28, 3) := by decide +kernel
theorem dX1_begins_9 : decode cX1_begins 9 = .ok (.iload_n 2, 1) := by decide +kernel
theorem dX1_begins_10 : decode cX1_begins 10 = .ok (.ifCond .eq 20, 3) := by decide +kernel
theorem dX1_begins_13 : decode cX1_begins 13 = .ok (.aload_n 0, 1) := by decide +kernel
theorem dX1_begins_14 : decode cX1_begins 14 = .ok (.iload_n 1, 1) := by decide +kernel
theorem dX1_begins_15 : decode cX1_begins 15 = .ok (.iload_n 2, 1) := by decide +kernel
theorem dX1_begins_16 : decode cX1_begins 16 = .ok (.iconst 1, 1) := by decide +kernel
theorem dX1_begins_17 : decode cX1_begins 17 = .ok (.isub, 1) := by decide +kernel
theorem dX1_begins_18 : decode cX1_begins 18 = .ok (.invokevirtual 48, 3) := by decide +kernel
theorem dX1_begins_21 : decode cX1_begins 21 = .ok (.aload_n 0, 1) := by decide +kernel
theorem dX1_begins_22 : decode cX1_begins 22 = .ok (.iload_n 1, 1) := by decide +kernel
theorem dX1_begins_23 : decode cX1_begins 23 = .ok (.iload_n 2, 1) := by decide +kernel
theorem dX1_begins_24 : decode cX1_begins 24 = .ok (.invokevirtual 48, 3) := by decide +kernel
theorem dX1_begins_27 : decode cX1_begins 27 = .ok (.if_icmp .eq 7, 3) := by decide +kernel
theorem dX1_begins_30 : decode cX1_begins 30 = .ok (.iconst 1, 1) := by decide +kernel
theorem dX1_begins_31 : decode cX1_begins 31 = .ok (.goto 4, 3) := by decide +kernel
theorem dX1_begins_34 : decode cX1_begins 34 = .ok (.iconst 0, 1) := by decide +kernel
theorem dX1_begins_35 : decode cX1_begins 35 = .ok (.ireturn, 1) := by decide +kernel
theorem dX1_time_0 : decode cX1_time 0 = .ok (.aload_n 0, 1) := by decide +kernel
theorem dX1_time_1 : decode cX1_time 1 = .ok (.aload_n 0, 1) := by decide +kernel
theorem dX1_time_2 : decode cX1_time 2 = .ok (.iload_n 1, 1) := by decide +kernel
theorem dX1_time_3 : decode cX1_time 3 = .ok (.invokevirtual 70, 3) := by decide +kernel
theorem dX1_time_6 : decode cX1_time 6 = .ok (.ifCond .eq 7, 3) := by decide +kernel
theorem dX1_time_9 : decode cX1_time 9 = .ok (.iconst 0, 1) := by decide +kernel
theorem dX1_time_10 : decode cX1_time 10 = .ok (.goto 4, 3) := by decide +kernel
theorem dX1_time_13 : decode cX1_time 13 = .ok (.iconst 1, 1) := by decide +kernel
theorem dX1_time_14 : decode cX1_time 14 = .ok (.invokevirtual 63, 3) := by decide +kernel
theorem dX1_time_17 : decode cX1_time 17 = .ok (.ifCond .eq 7, 3) := by decide +kernel
theorem dX1_time_20 : decode cX1_time 20 = .ok (.iconst 0, 1) := by decide +kernel
theorem dX1_time_21 : decode cX1_time 21 = .ok (.goto 9, 3) := by decide +kernel
theorem dX1_time_24 : decode cX1_time 24 = .ok (.aload_n 0, 1) := by decide +kernel
theorem dX1_time_25 : decode cX1_time 25 = .ok (.getfield 7, 3) := by decide +kernel
theorem dX1_time_28 : decode cX1_time 28 = .ok (.iload_n 1, 1) := by decide +kernel
theorem dX1_time_29 : decode cX1_time 29 = .ok (.iaload, 1) := by decide +kernel
theorem dX1_time_30 : decode cX1_time 30 = .ok (.ireturn, 1) := by decide +kernel
theorem dX1_edge_0 : decode cX1_edge 0 = .ok (.aload_n 0, 1) := by decide +kernel
theorem dX1_edge_1 : decode cX1_edge 1 = .ok (.iload_n 1, 1) := by decide +kernel
theorem dX1_edge_2 : decode cX1_edge 2 = .ok (.ifCond .lt 21, 3) := by decide +kernel
theorem dX1_edge_5 : decode cX1_edge 5 = .ok (.iload_n 2, 1) := by decide +kernel
theorem dX1_edge_6 : decode cX1_edge 6 = .ok (.ifCond .lt 17, 3) := by decide +kernel
theorem dX1_edge_9 : decode cX1_edge 9 = .ok (.iload_n 2, 1) := by decide +kernel
theorem dX1_edge_10 : decode cX1_edge 10 = .ok (.iconst 3, 1) := by decide +kernel
theorem dX1_edge_11 : decode cX1_edge 11 = .ok (.if_icmp .gt 12, 3) := by decide +kernel
theorem dX1_edge_14 : decode cX1_edge 14 = .ok (.aload_n 0, 1) := by decide +kernel
theorem dX1_edge_15 : decode cX1_edge 15 = .ok (.iload_n 1, 1) := by decide +kernel
theorem dX1_edge_16 : decode cX1_edge 16 = .ok (.invokevirtual 98, 3) := by decide +kernel
theorem dX1_edge_19 : decode cX1_edge 19 = .ok (.iload_n 1, 1) := by decide +kernel
theorem dX1_edge_20 : decode cX1_edge 20 = .ok (.if_icmp .gt 7, 3) := by decide +kernel
theorem dX1_edge_23 : decode cX1_edge 23 = .ok (.iconst 1, 1) := by decide +kernel
theorem dX1_edge_24 : decode cX1_edge 24 = .ok (.goto 4, 3) := by decide +kernel
theorem dX1_edge_27 : decode cX1_edge 27 = .ok (.iconst 0, 1) := by decide +kernel
theorem dX1_edge_28 : decode cX1_edge 28 = .ok (.invokevirtual 63, 3) := by decide +kernel
theorem dX1_edge_31 : decode cX1_edge 31 = .ok (.ifCond .eq 5, 3) := by decide +kernel
theorem dX1_edge_34 : decode cX1_edge 34 = .ok (.iconst 0, 1) := by decide +kernel
theorem dX1_edge_35 : decode cX1_edge 35 = .ok (.ireturn, 1) := by decide +kernel
theorem dX1_edge_36 : decode cX1_edge 36 = .ok (.aload_n 0, 1) := by decide +kernel
theorem dX1_edge_37 : decode cX1_edge 37 = .ok (.aload_n 0, 1) := by decide +kernel
theorem dX1_edge_38 : decode cX1_edge 38 = .ok (.getfield 85, 3) := by decide +kernel
theorem dX1_edge_41 : decode cX1_edge 41 = .ok (.putfield 102, 3) := by decide +kernel
theorem dX1_edge_44 : decode cX1_edge 44 = .ok (.aload_n 0, 1) := by decide +kernel
theorem dX1_edge_45 : decode cX1_edge 45 = .ok (.getfield 102, 3) := by decide +kernel
theorem dX1_edge_48 : decode cX1_edge 48 = .ok (.bipush 60, 2) := by decide +kernel
theorem dX1_edge_50 : decode cX1_edge 50 = .ok (.if_icmp .ge 35, 3) := by decide +kernel
theorem dX1_edge_53 : decode cX1_edge 53 = .ok (.aload_n 0, 1) := by decide +kernel
theorem dX1_edge_54 : decode cX1_edge 54 = .ok (.aload_n 0, 1) := by decide +kernel
theorem dX1_edge_55 : decode cX1_edge 55 = .ok (.getfield 91, 3) := by decide +kernel
theorem dX1_edge_58 : decode cX1_edge 58 = .ok (.aload_n 0, 1) := by decide +kernel
theorem dX1_edge_59 : decode cX1_edge 59 = .ok (.getfield 102, 3) := by decide +kernel
theorem dX1_edge_62 : decode cX1_edge 62 = .ok (.invokevirtual 48, 3) := by decide +kernel
theorem dX1_edge_65 : decode cX1_edge 65 = .ok (.aload_n 0, 1) := by decide +kernel
theorem dX1_edge_66 : decode cX1_edge 66 = .ok (.getfield 88, 3) := by decide +kernel
theorem dX1_edge_69 : decode cX1_edge 69 = .ok (.if_icmp .ne 16, 3) := by decide +kernel
theorem dX1_edge_72 : decode cX1_edge 72 = .ok (.aload_n 0, 1) := by decide +kernel
theorem dX1_edge_73 : decode cX1_edge 73 = .ok (.dup, 1) := by decide +kernel
theorem dX1_edge_74 : decode cX1_edge 74 = .ok (.getfield 102, 3) := by decide +kernel
theorem dX1_edge_77 : decode cX1_edge 77 = .ok (.iconst 1, 1) := by decide +kernel
theorem dX1_edge_78 : decode cX1_edge 78 = .ok (.iadd, 1) := by decide +kernel
theorem dX1_edge_79 : decode cX1_edge 79 = .ok (.putfield 102, 3) := by decide +kernel
theorem dX1_edge_82 : decode cX1_edge 82 = .ok (.goto (-38), 3) := by decide +kernel
theorem dX1_edge_85 : decode cX1_edge 85 = .ok (.iload_n 2, 1) := by decide +kernel
theorem dX1_edge_86 : decode cX1_edge 86 = .ok (.ifCond .ne 10, 3) := by decide +kernel
theorem dX1_edge_89 : decode cX1_edge 89 = .ok (.aload_n 0, 1) := by decide +kernel
theorem dX1_edge_90 : decode cX1_edge 90 = .ok (.getfield 85, 3) := by decide +kernel
theorem dX1_edge_93 : decode cX1_edge 93 = .ok (.goto 31, 3) := by decide +kernel
theorem dX1_edge_96 : decode cX1_edge 96 = .ok (.iload_n 2, 1) := by decide +kernel
theorem dX1_edge_97 : decode cX1_edge 97 = .ok (.iconst 1, 1) := by decide +kernel
theorem dX1_edge_98 : decode cX1_edge 98 = .ok (.if_icmp .ne 10, 3) := by decide +kernel
theorem dX1_edge_101 : decode cX1_edge 101 = .ok (.aload_n 0, 1) := by decide +kernel
theorem dX1_edge_102 : decode cX1_edge 102 = .ok (.getfield 102, 3) := by decide +kernel
theorem dX1_edge_105 : decode cX1_edge 105 = .ok (.goto 19, 3) := by decide +kernel
theorem dX1_edge_108 : decode cX1_edge 108 = .ok (.iload_n 2, 1) := by decide +kernel
theorem dX1_edge_109 : decode cX1_edge 109 = .ok (.iconst 2, 1) := by decide +kernel
theorem dX1_edge_110 : decode cX1_edge 110 = .ok (.if_icmp .ne 10, 3) := by decide +kernel
theorem dX1_edge_113 : decode cX1_edge 113 = .ok (.aload_n 0, 1) := by decide +kernel
theorem dX1_edge_114 : decode cX1_edge 114 = .ok (.getfield 88, 3) := by decide +kernel
theorem dX1_edge_117 : decode cX1_edge 117 = .ok (.goto 7, 3) := by decide +kernel
theorem dX1_edge_120 : decode cX1_edge 120 = .ok (.aload_n 0, 1) := by decide +kernel
theorem dX1_edge_121 : decode cX1_edge 121 = .ok (.getfield 91, 3) := by decide +kernel
theorem dX1_edge_124 : decode cX1_edge 124 = .ok (.ireturn, 1) := by decide +kernel
theorem dX1_parent_0 : decode cX1_parent 0 = .ok (.aload_n 0, 1) := by decide +kernel
theorem dX1_parent_1 : decode cX1_parent 1 = .ok (.iload_n 1, 1) := by decide +kernel
theorem dX1_parent_2 : decode cX1_parent 2 = .ok (.invokestatic 73, 3) := by decide +kernel
theorem dX1_parent_5 : decode cX1_parent 5 = .ok (.ifCond .eq 15, 3) := by decide +kernel
theorem dX1_parent_8 : decode cX1_parent 8 = .ok (.aload_n 0, 1) := by decide +kernel
theorem dX1_parent_9 : decode cX1_parent 9 = .ok (.iload_n 2, 1) := by decide +kernel
theorem dX1_parent_10 : decode cX1_parent 10 = .ok (.invokevirtual 70, 3) := by decide +kernel
theorem dX1_parent_13 : decode cX1_parent 13 = .ok (.ifCond .eq 7, 3) := by decide +kernel
theorem dX1_parent_16 : decode cX1_parent 16 = .ok (.iconst 0, 1) := by decide +kernel
theorem dX1_parent_17 : decode cX1_parent 17 = .ok (.goto 4, 3) := by decide +kernel
theorem dX1_parent_20 : decode cX1_parent 20 = .ok (.iconst 1, 1) := by decide +kernel
theorem dX1_parent_21 : decode cX1_parent 21 = .ok (.invokevirtual 63, 3) := by decide +kernel
theorem dX1_parent_24 : decode cX1_parent 24 = .ok (.ifCond .eq 7, 3) := by decide +kernel
theorem dX1_parent_27 : decode cX1_parent 27 = .ok (.iconst 0, 1) := by decide +kernel
theorem dX1_parent_28 : decode cX1_parent 28 = .ok (.goto 9, 3) := by decide +kernel
theorem dX1_parent_31 : decode cX1_parent 31 = .ok (.aload_n 0, 1) := by decide +kernel
theorem dX1_parent_32 : decode cX1_parent 32 = .ok (.iload_n 2, 1) := by decide +kernel
theorem dX1_parent_33 : decode cX1_parent 33 = .ok (.iload_n 1, 1) := by decide +kernel
theorem dX1_parent_34 : decode cX1_parent 34 = .ok (.invokevirtual 48, 3) := by decide +kernel
theorem dX1_parent_37 : decode cX1_parent 37 = .ok (.ireturn, 1) := by decide +kernel
theorem dX1_meet_0 : decode cX1_meet 0 = .ok (.aload_n 0, 1) := by decide +kernel
theorem dX1_meet_1 : decode cX1_meet 1 = .ok (.iload_n 1, 1) := by decide +kernel
theorem dX1_meet_2 : decode cX1_meet 2 = .ok (.invokestatic 73, 3) := by decide +kernel
theorem dX1_meet_5 : decode cX1_meet 5 = .ok (.ifCond .eq 23, 3) := by decide +kernel
theorem dX1_meet_8 : decode cX1_meet 8 = .ok (.aload_n 0, 1) := by decide +kernel
theorem dX1_meet_9 : decode cX1_meet 9 = .ok (.iload_n 2, 1) := by decide +kernel
theorem dX1_meet_10 : decode cX1_meet 10 = .ok (.invokevirtual 70, 3) := by decide +kernel
theorem dX1_meet_13 : decode cX1_meet 13 = .ok (.ifCond .eq 15, 3) := by decide +kernel
theorem dX1_meet_16 : decode cX1_meet 16 = .ok (.aload_n 0, 1) := by decide +kernel
theorem dX1_meet_17 : decode cX1_meet 17 = .ok (.iload_n 3, 1) := by decide +kernel
theorem dX1_meet_18 : decode cX1_meet 18 = .ok (.invokevirtual 70, 3) := by decide +kernel
theorem dX1_meet_21 : decode cX1_meet 21 = .ok (.ifCond .eq 7, 3) := by decide +kernel
theorem dX1_meet_24 : decode cX1_meet 24 = .ok (.iconst 0, 1) := by decide +kernel
theorem dX1_meet_25 : decode cX1_meet 25 = .ok (.goto 4, 3) := by decide +kernel
theorem dX1_meet_28 : decode cX1_meet 28 = .ok (.iconst 1, 1) := by decide +kernel
theorem dX1_meet_29 : decode cX1_meet 29 = .ok (.invokevirtual 63, 3) := by decide +kernel
theorem dX1_meet_32 : decode cX1_meet 32 = .ok (.ifCond .eq 5, 3) := by decide +kernel
theorem dX1_meet_35 : decode cX1_meet 35 = .ok (.iconst 0, 1) := by decide +kernel
theorem dX1_meet_36 : decode cX1_meet 36 = .ok (.ireturn, 1) := by decide +kernel
theorem dX1_meet_37 : decode cX1_meet 37 = .ok (.iload_n 2, 1) := by decide +kernel
theorem dX1_meet_38 : decode cX1_meet 38 = .ok (.istore 4, 2) := by decide +kernel
theorem dX1_meet_40 : decode cX1_meet 40 = .ok (.iload 4, 2) := by decide +kernel
theorem dX1_meet_42 : decode cX1_meet 42 = .ok (.ifCond .lt 26, 3) := by decide +kernel
theorem dX1_meet_45 : decode cX1_meet 45 = .ok (.aload_n 0, 1) := by decide +kernel
theorem dX1_meet_46 : decode cX1_meet 46 = .ok (.iload 4, 2) := by decide +kernel
theorem dX1_meet_48 : decode cX1_meet 48 = .ok (.iload_n 3, 1) := by decide +kernel
theorem dX1_meet_49 : decode cX1_meet 49 = .ok (.iload_n 1, 1) := by decide +kernel
theorem dX1_meet_50 : decode cX1_meet 50 = .ok (.invokevirtual 52, 3) := by decide +kernel
theorem dX1_meet_53 : decode cX1_meet 53 = .ok (.ifCond .ne 15, 3) := by decide +kernel
theorem dX1_meet_56 : decode cX1_meet 56 = .ok (.aload_n 0, 1) := by decide +kernel
theorem dX1_meet_57 : decode cX1_meet 57 = .ok (.iload 4, 2) := by decide +kernel
theorem dX1_meet_59 : decode cX1_meet 59 = .ok (.iload_n 1, 1) := by decide +kernel
theorem dX1_meet_60 : decode cX1_meet 60 = .ok (.invokevirtual 48, 3) := by decide +kernel
theorem dX1_meet_63 : decode cX1_meet 63 = .ok (.istore 4, 2) := by decide +kernel
theorem dX1_meet_65 : decode cX1_meet 65 = .ok (.goto (-25), 3) := by decide +kernel
theorem dX1_meet_68 : decode cX1_meet 68 = .ok (.iload 4, 2) := by decide +kernel
theorem dX1_meet_70 : decode cX1_meet 70 = .ok (.ireturn, 1) := by decide +kernel
theorem dX1_holds_0 : decode cX1_holds 0 = .ok (.iload_n 2, 1) := by decide +kernel
theorem dX1_holds_1 : decode cX1_holds 1 = .ok (.istore 4, 2) := by decide +kernel
theorem dX1_holds_3 : decode cX1_holds 3 = .ok (.iload 4, 2) := by decide +kernel
theorem dX1_holds_5 : decode cX1_holds 5 = .ok (.ifCond .lt 21, 3) := by decide +kernel
theorem dX1_holds_8 : decode cX1_holds 8 = .ok (.iload 4, 2) := by decide +kernel
theorem dX1_holds_10 : decode cX1_holds 10 = .ok (.iload_n 1, 1) := by decide +kernel
theorem dX1_holds_11 : decode cX1_holds 11 = .ok (.if_icmp .eq 15, 3) := by decide +kernel
theorem dX1_holds_14 : decode cX1_holds 14 = .ok (.aload_n 0, 1) := by decide +kernel
theorem dX1_holds_15 : decode cX1_holds 15 = .ok (.iload 4, 2) := by decide +kernel
theorem dX1_holds_17 : decode cX1_holds 17 = .ok (.iload_n 3, 1) := by decide +kernel
theorem dX1_holds_18 : decode cX1_holds 18 = .ok (.invokevirtual 48, 3) := by decide +kernel
theorem dX1_holds_21 : decode cX1_holds 21 = .ok (.istore 4, 2) := by decide +kernel
theorem dX1_holds_23 : decode cX1_holds 23 = .ok (.goto (-20), 3) := by decide +kernel
theorem dX1_holds_26 : decode cX1_holds 26 = .ok (.iload 4, 2) := by decide +kernel
theorem dX1_holds_28 : decode cX1_holds 28 = .ok (.iload_n 1, 1) := by decide +kernel
theorem dX1_holds_29 : decode cX1_holds 29 = .ok (.if_icmp .ne 7, 3) := by decide +kernel
theorem dX1_holds_32 : decode cX1_holds 32 = .ok (.iconst 1, 1) := by decide +kernel
theorem dX1_holds_33 : decode cX1_holds 33 = .ok (.goto 4, 3) := by decide +kernel
theorem dX1_holds_36 : decode cX1_holds 36 = .ok (.iconst 0, 1) := by decide +kernel
theorem dX1_holds_37 : decode cX1_holds 37 = .ok (.ireturn, 1) := by decide +kernel
theorem dX1_trees_0 : decode cX1_trees 0 = .ok (.aload_n 0, 1) := by decide +kernel
theorem dX1_trees_1 : decode cX1_trees 1 = .ok (.iconst 0, 1) := by decide +kernel
theorem dX1_trees_2 : decode cX1_trees 2 = .ok (.putfield 38, 3) := by decide +kernel
theorem dX1_trees_5 : decode cX1_trees 5 = .ok (.iconst 1, 1) := by decide +kernel
theorem dX1_trees_6 : decode cX1_trees 6 = .ok (.istore_n 1, 1) := by decide +kernel
theorem dX1_trees_7 : decode cX1_trees 7 = .ok (.iconst 1, 1) := by decide +kernel
theorem dX1_trees_8 : decode cX1_trees 8 = .ok (.istore_n 2, 1) := by decide +kernel
theorem dX1_trees_9 : decode cX1_trees 9 = .ok (.iload_n 2, 1) := by decide +kernel
theorem dX1_trees_10 : decode cX1_trees 10 = .ok (.bipush 60, 2) := by decide +kernel
theorem dX1_trees_12 : decode cX1_trees 12 = .ok (.if_icmp .ge 25, 3) := by decide +kernel
theorem dX1_trees_15 : decode cX1_trees 15 = .ok (.aload_n 0, 1) := by decide +kernel
theorem dX1_trees_16 : decode cX1_trees 16 = .ok (.iload_n 2, 1) := by decide +kernel
theorem dX1_trees_17 : decode cX1_trees 17 = .ok (.invokevirtual 105, 3) := by decide +kernel
theorem dX1_trees_20 : decode cX1_trees 20 = .ok (.ifCond .eq 9, 3) := by decide +kernel
theorem dX1_trees_23 : decode cX1_trees 23 = .ok (.iload_n 1, 1) := by decide +kernel
theorem dX1_trees_24 : decode cX1_trees 24 = .ok (.iconst 1, 1) := by decide +kernel
theorem dX1_trees_25 : decode cX1_trees 25 = .ok (.iadd, 1) := by decide +kernel
theorem dX1_trees_26 : decode cX1_trees 26 = .ok (.goto 4, 3) := by decide +kernel
theorem dX1_trees_29 : decode cX1_trees 29 = .ok (.iload_n 1, 1) := by decide +kernel
theorem dX1_trees_30 : decode cX1_trees 30 = .ok (.istore_n 1, 1) := by decide +kernel
theorem dX1_trees_31 : decode cX1_trees 31 = .ok (.iinc 2 1, 3) := by decide +kernel
theorem dX1_trees_34 : decode cX1_trees 34 = .ok (.goto (-25), 3) := by decide +kernel
theorem dX1_trees_37 : decode cX1_trees 37 = .ok (.iload_n 1, 1) := by decide +kernel
theorem dX1_trees_38 : decode cX1_trees 38 = .ok (.ireturn, 1) := by decide +kernel
theorem dX1_differs_0 : decode cX1_differs 0 = .ok (.iconst 0, 1) := by decide +kernel
theorem dX1_differs_1 : decode cX1_differs 1 = .ok (.istore_n 2, 1) := by decide +kernel
theorem dX1_differs_2 : decode cX1_differs 2 = .ok (.iconst 0, 1) := by decide +kernel
theorem dX1_differs_3 : decode cX1_differs 3 = .ok (.istore_n 3, 1) := by decide +kernel
theorem dX1_differs_4 : decode cX1_differs 4 = .ok (.iload_n 3, 1) := by decide +kernel
theorem dX1_differs_5 : decode cX1_differs 5 = .ok (.aload_n 0, 1) := by decide +kernel
theorem dX1_differs_6 : decode cX1_differs 6 = .ok (.getfield 42, 3) := by decide +kernel
theorem dX1_differs_9 : decode cX1_differs 9 = .ok (.if_icmp .ge 36, 3) := by decide +kernel
theorem dX1_differs_12 : decode cX1_differs 12 = .ok (.iload_n 2, 1) := by decide +kernel
theorem dX1_differs_13 : decode cX1_differs 13 = .ok (.ifCond .ne 20, 3) := by decide +kernel
theorem dX1_differs_16 : decode cX1_differs 16 = .ok (.aload_n 0, 1) := by decide +kernel
theorem dX1_differs_17 : decode cX1_differs 17 = .ok (.iload_n 3, 1) := by decide +kernel
theorem dX1_differs_18 : decode cX1_differs 18 = .ok (.iload_n 1, 1) := by decide +kernel
theorem dX1_differs_19 : decode cX1_differs 19 = .ok (.invokevirtual 48, 3) := by decide +kernel
theorem dX1_differs_22 : decode cX1_differs 22 = .ok (.aload_n 0, 1) := by decide +kernel
theorem dX1_differs_23 : decode cX1_differs 23 = .ok (.iload_n 3, 1) := by decide +kernel
theorem dX1_differs_24 : decode cX1_differs 24 = .ok (.iload_n 1, 1) := by decide +kernel
theorem dX1_differs_25 : decode cX1_differs 25 = .ok (.iconst 1, 1) := by decide +kernel
theorem dX1_differs_26 : decode cX1_differs 26 = .ok (.isub, 1) := by decide +kernel
theorem dX1_differs_27 : decode cX1_differs 27 = .ok (.invokevirtual 48, 3) := by decide +kernel
theorem dX1_differs_30 : decode cX1_differs 30 = .ok (.if_icmp .eq 7, 3) := by decide +kernel
theorem dX1_differs_33 : decode cX1_differs 33 = .ok (.iconst 1, 1) := by decide +kernel
theorem dX1_differs_34 : decode cX1_differs 34 = .ok (.goto 4, 3) := by decide +kernel
theorem dX1_differs_37 : decode cX1_differs 37 = .ok (.iconst 0, 1) := by decide +kernel
theorem dX1_differs_38 : decode cX1_differs 38 = .ok (.istore_n 2, 1) := by decide +kernel
theorem dX1_differs_39 : decode cX1_differs 39 = .ok (.iinc 3 1, 3) := by decide +kernel
theorem dX1_differs_42 : decode cX1_differs 42 = .ok (.goto (-38), 3) := by decide +kernel
theorem dX1_differs_45 : decode cX1_differs 45 = .ok (.iload_n 2, 1) := by decide +kernel
theorem dX1_differs_46 : decode cX1_differs 46 = .ok (.ireturn, 1) := by decide +kernel
theorem dX1_cut_0 : decode cX1_cut 0 = .ok (.aload_n 0, 1) := by decide +kernel
theorem dX1_cut_1 : decode cX1_cut 1 = .ok (.invokevirtual 108, 3) := by decide +kernel
theorem dX1_cut_4 : decode cX1_cut 4 = .ok (.istore_n 2, 1) := by decide +kernel
theorem dX1_cut_5 : decode cX1_cut 5 = .ok (.aload_n 0, 1) := by decide +kernel
theorem dX1_cut_6 : decode cX1_cut 6 = .ok (.iload_n 1, 1) := by decide +kernel
theorem dX1_cut_7 : decode cX1_cut 7 = .ok (.ifCond .lt 8, 3) := by decide +kernel
theorem dX1_cut_10 : decode cX1_cut 10 = .ok (.iload_n 1, 1) := by decide +kernel
theorem dX1_cut_11 : decode cX1_cut 11 = .ok (.iload_n 2, 1) := by decide +kernel
theorem dX1_cut_12 : decode cX1_cut 12 = .ok (.if_icmp .le 7, 3) := by decide +kernel
theorem dX1_cut_15 : decode cX1_cut 15 = .ok (.iconst 1, 1) := by decide +kernel
theorem dX1_cut_16 : decode cX1_cut 16 = .ok (.goto 4, 3) := by decide +kernel
theorem dX1_cut_19 : decode cX1_cut 19 = .ok (.iconst 0, 1) := by decide +kernel
theorem dX1_cut_20 : decode cX1_cut 20 = .ok (.invokevirtual 63, 3) := by decide +kernel
theorem dX1_cut_23 : decode cX1_cut 23 = .ok (.ifCond .eq 5, 3) := by decide +kernel
theorem dX1_cut_26 : decode cX1_cut 26 = .ok (.iconst 0, 1) := by decide +kernel
theorem dX1_cut_27 : decode cX1_cut 27 = .ok (.ireturn, 1) := by decide +kernel
theorem dX1_cut_28 : decode cX1_cut 28 = .ok (.iconst 0, 1) := by decide +kernel
theorem dX1_cut_29 : decode cX1_cut 29 = .ok (.istore_n 3, 1) := by decide +kernel
theorem dX1_cut_30 : decode cX1_cut 30 = .ok (.iconst 0, 1) := by decide +kernel
theorem dX1_cut_31 : decode cX1_cut 31 = .ok (.istore 4, 2) := by decide +kernel
theorem dX1_cut_33 : decode cX1_cut 33 = .ok (.iload 4, 2) := by decide +kernel
theorem dX1_cut_35 : decode cX1_cut 35 = .ok (.iload_n 1, 1) := by decide +kernel
theorem dX1_cut_36 : decode cX1_cut 36 = .ok (.if_icmp .ge 34, 3) := by decide +kernel
theorem dX1_cut_39 : decode cX1_cut 39 = .ok (.iinc 3 1, 3) := by decide +kernel
theorem dX1_cut_42 : decode cX1_cut 42 = .ok (.iload_n 3, 1) := by decide +kernel
theorem dX1_cut_43 : decode cX1_cut 43 = .ok (.bipush 60, 2) := by decide +kernel
theorem dX1_cut_45 : decode cX1_cut 45 = .ok (.if_icmp .eq 11, 3) := by decide +kernel
theorem dX1_cut_48 : decode cX1_cut 48 = .ok (.aload_n 0, 1) := by decide +kernel
theorem dX1_cut_49 : decode cX1_cut 49 = .ok (.iload_n 3, 1) := by decide +kernel
theorem dX1_cut_50 : decode cX1_cut 50 = .ok (.invokevirtual 105, 3) := by decide +kernel
theorem dX1_cut_53 : decode cX1_cut 53 = .ok (.ifCond .eq 10, 3) := by decide +kernel
theorem dX1_cut_56 : decode cX1_cut 56 = .ok (.iload 4, 2) := by decide +kernel
theorem dX1_cut_58 : decode cX1_cut 58 = .ok (.iconst 1, 1) := by decide +kernel
theorem dX1_cut_59 : decode cX1_cut 59 = .ok (.iadd, 1) := by decide +kernel
theorem dX1_cut_60 : decode cX1_cut 60 = .ok (.goto 5, 3) := by decide +kernel
theorem dX1_cut_63 : decode cX1_cut 63 = .ok (.iload 4, 2) := by decide +kernel
theorem dX1_cut_65 : decode cX1_cut 65 = .ok (.istore 4, 2) := by decide +kernel
theorem dX1_cut_67 : decode cX1_cut 67 = .ok (.goto (-34), 3) := by decide +kernel
theorem dX1_cut_70 : decode cX1_cut 70 = .ok (.iload_n 3, 1) := by decide +kernel
theorem dX1_cut_71 : decode cX1_cut 71 = .ok (.ireturn, 1) := by decide +kernel
theorem dX1_letter_0 : decode cX1_letter 0 = .ok (.aload_n 0, 1) := by decide +kernel
theorem dX1_letter_1 : decode cX1_letter 1 = .ok (.aload_n 0, 1) := by decide +kernel
theorem dX1_letter_2 : decode cX1_letter 2 = .ok (.iload_n 1, 1) := by decide +kernel
theorem dX1_letter_3 : decode cX1_letter 3 = .ok (.invokevirtual 79, 3) := by decide +kernel
theorem dX1_letter_6 : decode cX1_letter 6 = .ok (.ifCond .eq 15, 3) := by decide +kernel
theorem dX1_letter_9 : decode cX1_letter 9 = .ok (.aload_n 0, 1) := by decide +kernel
theorem dX1_letter_10 : decode cX1_letter 10 = .ok (.iload_n 2, 1) := by decide +kernel
theorem dX1_letter_11 : decode cX1_letter 11 = .ok (.invokevirtual 70, 3) := by decide +kernel
theorem dX1_letter_14 : decode cX1_letter 14 = .ok (.ifCond .eq 7, 3) := by decide +kernel
theorem dX1_letter_17 : decode cX1_letter 17 = .ok (.iconst 0, 1) := by decide +kernel
theorem dX1_letter_18 : decode cX1_letter 18 = .ok (.goto 4, 3) := by decide +kernel
theorem dX1_letter_21 : decode cX1_letter 21 = .ok (.iconst 1, 1) := by decide +kernel
theorem dX1_letter_22 : decode cX1_letter 22 = .ok (.invokevirtual 63, 3) := by decide +kernel
theorem dX1_letter_25 : decode cX1_letter 25 = .ok (.ifCond .eq 7, 3) := by decide +kernel
theorem dX1_letter_28 : decode cX1_letter 28 = .ok (.iconst 0, 1) := by decide +kernel
theorem dX1_letter_29 : decode cX1_letter 29 = .ok (.goto 9, 3) := by decide +kernel
theorem dX1_letter_32 : decode cX1_letter 32 = .ok (.aload_n 0, 1) := by decide +kernel
theorem dX1_letter_33 : decode cX1_letter 33 = .ok (.iload_n 1, 1) := by decide +kernel
theorem dX1_letter_34 : decode cX1_letter 34 = .ok (.iload_n 2, 1) := by decide +kernel
theorem dX1_letter_35 : decode cX1_letter 35 = .ok (.invokevirtual 111, 3) := by decide +kernel
theorem dX1_letter_38 : decode cX1_letter 38 = .ok (.ireturn, 1) := by decide +kernel
theorem dX1_letterAt_0 : decode cX1_letterAt 0 = .ok (.iload_n 2, 1) := by decide +kernel
theorem dX1_letterAt_1 : decode cX1_letterAt 1 = .ok (.istore_n 3, 1) := by decide +kernel
theorem dX1_letterAt_2 : decode cX1_letterAt 2 = .ok (.iload_n 3, 1) := by decide +kernel
theorem dX1_letterAt_3 : decode cX1_letterAt 3 = .ok (.ifCond .lt 32, 3) := by decide +kernel
theorem dX1_letterAt_6 : decode cX1_letterAt 6 = .ok (.aload_n 0, 1) := by decide +kernel
theorem dX1_letterAt_7 : decode cX1_letterAt 7 = .ok (.getfield 26, 3) := by decide +kernel
theorem dX1_letterAt_10 : decode cX1_letterAt 10 = .ok (.bipush 14, 2) := by decide +kernel
theorem dX1_letterAt_12 : decode cX1_letterAt 12 = .ok (.iload_n 1, 1) := by decide +kernel
theorem dX1_letterAt_13 : decode cX1_letterAt 13 = .ok (.imul, 1) := by decide +kernel
theorem dX1_letterAt_14 : decode cX1_letterAt 14 = .ok (.iload_n 3, 1) := by decide +kernel
theorem dX1_letterAt_15 : decode cX1_letterAt 15 = .ok (.iadd, 1) := by decide +kernel
theorem dX1_letterAt_16 : decode cX1_letterAt 16 = .ok (.iaload, 1) := by decide +kernel
theorem dX1_letterAt_17 : decode cX1_letterAt 17 = .ok (.ifCond .ne 18, 3) := by decide +kernel
theorem dX1_letterAt_20 : decode cX1_letterAt 20 = .ok (.aload_n 0, 1) := by decide +kernel
theorem dX1_letterAt_21 : decode cX1_letterAt 21 = .ok (.iload_n 3, 1) := by decide +kernel
theorem dX1_letterAt_22 : decode cX1_letterAt 22 = .ok (.aload_n 0, 1) := by decide +kernel
theorem dX1_letterAt_23 : decode cX1_letterAt 23 = .ok (.getfield 20, 3) := by decide +kernel
theorem dX1_letterAt_26 : decode cX1_letterAt 26 = .ok (.iload_n 1, 1) := by decide +kernel
theorem dX1_letterAt_27 : decode cX1_letterAt 27 = .ok (.iaload, 1) := by decide +kernel
theorem dX1_letterAt_28 : decode cX1_letterAt 28 = .ok (.invokevirtual 48, 3) := by decide +kernel
theorem dX1_letterAt_31 : decode cX1_letterAt 31 = .ok (.istore_n 3, 1) := by decide +kernel
theorem dX1_letterAt_32 : decode cX1_letterAt 32 = .ok (.goto (-30), 3) := by decide +kernel
theorem dX1_letterAt_35 : decode cX1_letterAt 35 = .ok (.iload_n 3, 1) := by decide +kernel
theorem dX1_letterAt_36 : decode cX1_letterAt 36 = .ok (.ifCond .ge 12, 3) := by decide +kernel
theorem dX1_letterAt_39 : decode cX1_letterAt 39 = .ok (.aload_n 0, 1) := by decide +kernel
theorem dX1_letterAt_40 : decode cX1_letterAt 40 = .ok (.getfield 23, 3) := by decide +kernel
theorem dX1_letterAt_43 : decode cX1_letterAt 43 = .ok (.iload_n 1, 1) := by decide +kernel
theorem dX1_letterAt_44 : decode cX1_letterAt 44 = .ok (.iaload, 1) := by decide +kernel
theorem dX1_letterAt_45 : decode cX1_letterAt 45 = .ok (.goto 16, 3) := by decide +kernel
theorem dX1_letterAt_48 : decode cX1_letterAt 48 = .ok (.aload_n 0, 1) := by decide +kernel
theorem dX1_letterAt_49 : decode cX1_letterAt 49 = .ok (.getfield 26, 3) := by decide +kernel
theorem dX1_letterAt_52 : decode cX1_letterAt 52 = .ok (.bipush 14, 2) := by decide +kernel
theorem dX1_letterAt_54 : decode cX1_letterAt 54 = .ok (.iload_n 1, 1) := by decide +kernel
theorem dX1_letterAt_55 : decode cX1_letterAt 55 = .ok (.imul, 1) := by decide +kernel
theorem dX1_letterAt_56 : decode cX1_letterAt 56 = .ok (.iload_n 3, 1) := by decide +kernel
theorem dX1_letterAt_57 : decode cX1_letterAt 57 = .ok (.iadd, 1) := by decide +kernel
theorem dX1_letterAt_58 : decode cX1_letterAt 58 = .ok (.iaload, 1) := by decide +kernel
theorem dX1_letterAt_59 : decode cX1_letterAt 59 = .ok (.iconst 1, 1) := by decide +kernel
theorem dX1_letterAt_60 : decode cX1_letterAt 60 = .ok (.isub, 1) := by decide +kernel
theorem dX1_letterAt_61 : decode cX1_letterAt 61 = .ok (.ireturn, 1) := by decide +kernel
theorem dX1_differing_0 : decode cX1_differing 0 = .ok (.aload_n 0, 1) := by decide +kernel
theorem dX1_differing_1 : decode cX1_differing 1 = .ok (.iconst 0, 1) := by decide +kernel
theorem dX1_differing_2 : decode cX1_differing 2 = .ok (.putfield 38, 3) := by decide +kernel
theorem dX1_differing_5 : decode cX1_differing 5 = .ok (.iconst 0, 1) := by decide +kernel
theorem dX1_differing_6 : decode cX1_differing 6 = .ok (.istore_n 1, 1) := by decide +kernel
theorem dX1_differing_7 : decode cX1_differing 7 = .ok (.iconst 0, 1) := by decide +kernel
theorem dX1_differing_8 : decode cX1_differing 8 = .ok (.istore_n 2, 1) := by decide +kernel
theorem dX1_differing_9 : decode cX1_differing 9 = .ok (.iload_n 2, 1) := by decide +kernel
theorem dX1_differing_10 : decode cX1_differing 10 = .ok (.aload_n 0, 1) := by decide +kernel
theorem dX1_differing_11 : decode cX1_differing 11 = .ok (.getfield 45, 3) := by decide +kernel
theorem dX1_differing_14 : decode cX1_differing 14 = .ok (.if_icmp .ge 83, 3) := by decide +kernel
theorem dX1_differing_17 : decode cX1_differing 17 = .ok (.iconst 0, 1) := by decide +kernel
theorem dX1_differing_18 : decode cX1_differing 18 = .ok (.istore_n 3, 1) := by decide +kernel
theorem dX1_differing_19 : decode cX1_differing 19 = .ok (.iload_n 3, 1) := by decide +kernel
theorem dX1_differing_20 : decode cX1_differing 20 = .ok (.aload_n 0, 1) := by decide +kernel
theorem dX1_differing_21 : decode cX1_differing 21 = .ok (.getfield 42, 3) := by decide +kernel
theorem dX1_differing_24 : decode cX1_differing 24 = .ok (.if_icmp .ge 67, 3) := by decide +kernel
theorem dX1_differing_27 : decode cX1_differing 27 = .ok (.iconst 0, 1) := by decide +kernel
theorem dX1_differing_28 : decode cX1_differing 28 = .ok (.istore 4, 2) := by decide +kernel
theorem dX1_differing_30 : decode cX1_differing 30 = .ok (.iload 4, 2) := by decide +kernel
theorem dX1_differing_32 : decode cX1_differing 32 = .ok (.iload_n 3, 1) := by decide +kernel
theorem dX1_differing_33 : decode cX1_differing 33 = .ok (.if_icmp .ge 52, 3) := by decide +kernel
theorem dX1_differing_36 : decode cX1_differing 36 = .ok (.aload_n 0, 1) := by decide +kernel
theorem dX1_differing_37 : decode cX1_differing 37 = .ok (.getfield 13, 3) := by decide +kernel
theorem dX1_differing_40 : decode cX1_differing 40 = .ok (.iload_n 3, 1) := by decide +kernel
theorem dX1_differing_41 : decode cX1_differing 41 = .ok (.baload, 1) := by decide +kernel
theorem dX1_differing_42 : decode cX1_differing 42 = .ok (.ifCond .eq 35, 3) := by decide +kernel
theorem dX1_differing_45 : decode cX1_differing 45 = .ok (.aload_n 0, 1) := by decide +kernel
theorem dX1_differing_46 : decode cX1_differing 46 = .ok (.getfield 13, 3) := by decide +kernel
theorem dX1_differing_49 : decode cX1_differing 49 = .ok (.iload 4, 2) := by decide +kernel
theorem dX1_differing_51 : decode cX1_differing 51 = .ok (.baload, 1) := by decide +kernel
theorem dX1_differing_52 : decode cX1_differing 52 = .ok (.ifCond .eq 25, 3) := by decide +kernel
theorem dX1_differing_55 : decode cX1_differing 55 = .ok (.aload_n 0, 1) := by decide +kernel
theorem dX1_differing_56 : decode cX1_differing 56 = .ok (.iload_n 2, 1) := by decide +kernel
theorem dX1_differing_57 : decode cX1_differing 57 = .ok (.iload_n 3, 1) := by decide +kernel
theorem dX1_differing_58 : decode cX1_differing 58 = .ok (.invokevirtual 111, 3) := by decide +kernel
theorem dX1_differing_61 : decode cX1_differing 61 = .ok (.aload_n 0, 1) := by decide +kernel
theorem dX1_differing_62 : decode cX1_differing 62 = .ok (.iload_n 2, 1) := by decide +kernel
theorem dX1_differing_63 : decode cX1_differing 63 = .ok (.iload 4, 2) := by decide +kernel
theorem dX1_differing_65 : decode cX1_differing 65 = .ok (.invokevirtual 111, 3) := by decide +kernel
theorem dX1_differing_68 : decode cX1_differing 68 = .ok (.if_icmp .eq 9, 3) := by decide +kernel
theorem dX1_differing_71 : decode cX1_differing 71 = .ok (.iload_n 1, 1) := by decide +kernel
theorem dX1_differing_72 : decode cX1_differing 72 = .ok (.iconst 1, 1) := by decide +kernel
theorem dX1_differing_73 : decode cX1_differing 73 = .ok (.iadd, 1) := by decide +kernel
theorem dX1_differing_74 : decode cX1_differing 74 = .ok (.goto 4, 3) := by decide +kernel
theorem dX1_differing_77 : decode cX1_differing 77 = .ok (.iload_n 1, 1) := by decide +kernel
theorem dX1_differing_78 : decode cX1_differing 78 = .ok (.istore_n 1, 1) := by decide +kernel
theorem dX1_differing_79 : decode cX1_differing 79 = .ok (.iinc 4 1, 3) := by decide +kernel
theorem dX1_differing_82 : decode cX1_differing 82 = .ok (.goto (-52), 3) := by decide +kernel
theorem dX1_differing_85 : decode cX1_differing 85 = .ok (.iinc 3 1, 3) := by decide +kernel
theorem dX1_differing_88 : decode cX1_differing 88 = .ok (.goto (-69), 3) := by decide +kernel
theorem dX1_differing_91 : decode cX1_differing 91 = .ok (.iinc 2 1, 3) := by decide +kernel
theorem dX1_differing_94 : decode cX1_differing 94 = .ok (.goto (-85), 3) := by decide +kernel
theorem dX1_differing_97 : decode cX1_differing 97 = .ok (.iload_n 1, 1) := by decide +kernel
theorem dX1_differing_98 : decode cX1_differing 98 = .ok (.ireturn, 1) := by decide +kernel
theorem dX1_spectrum_0 : decode cX1_spectrum 0 = .ok (.aload_n 0, 1) := by decide +kernel
theorem dX1_spectrum_1 : decode cX1_spectrum 1 = .ok (.iconst 0, 1) := by decide +kernel
theorem dX1_spectrum_2 : decode cX1_spectrum 2 = .ok (.putfield 38, 3) := by decide +kernel
theorem dX1_spectrum_5 : decode cX1_spectrum 5 = .ok (.iconst 0, 1) := by decide +kernel
theorem dX1_spectrum_6 : decode cX1_spectrum 6 = .ok (.istore_n 2, 1) := by decide +kernel
theorem dX1_spectrum_7 : decode cX1_spectrum 7 = .ok (.iconst 0, 1) := by decide +kernel
theorem dX1_spectrum_8 : decode cX1_spectrum 8 = .ok (.istore_n 3, 1) := by decide +kernel
theorem dX1_spectrum_9 : decode cX1_spectrum 9 = .ok (.iload_n 3, 1) := by decide +kernel
theorem dX1_spectrum_10 : decode cX1_spectrum 10 = .ok (.aload_n 0, 1) := by decide +kernel
theorem dX1_spectrum_11 : decode cX1_spectrum 11 = .ok (.getfield 45, 3) := by decide +kernel
theorem dX1_spectrum_14 : decode cX1_spectrum 14 = .ok (.if_icmp .ge 107, 3) := by decide +kernel
theorem dX1_spectrum_17 : decode cX1_spectrum 17 = .ok (.iconst 0, 1) := by decide +kernel
theorem dX1_spectrum_18 : decode cX1_spectrum 18 = .ok (.istore 4, 2) := by decide +kernel
theorem dX1_spectrum_20 : decode cX1_spectrum 20 = .ok (.iload 4, 2) := by decide +kernel
theorem dX1_spectrum_22 : decode cX1_spectrum 22 = .ok (.iconst 4, 1) := by decide +kernel
theorem dX1_spectrum_23 : decode cX1_spectrum 23 = .ok (.if_icmp .ge 92, 3) := by decide +kernel
theorem dX1_spectrum_26 : decode cX1_spectrum 26 = .ok (.iconst 0, 1) := by decide +kernel
theorem dX1_spectrum_27 : decode cX1_spectrum 27 = .ok (.istore 5, 2) := by decide +kernel
theorem dX1_spectrum_29 : decode cX1_spectrum 29 = .ok (.iconst 0, 1) := by decide +kernel
theorem dX1_spectrum_30 : decode cX1_spectrum 30 = .ok (.istore 6, 2) := by decide +kernel
theorem dX1_spectrum_32 : decode cX1_spectrum 32 = .ok (.iload 6, 2) := by decide +kernel
theorem dX1_spectrum_34 : decode cX1_spectrum 34 = .ok (.aload_n 0, 1) := by decide +kernel
theorem dX1_spectrum_35 : decode cX1_spectrum 35 = .ok (.getfield 42, 3) := by decide +kernel
theorem dX1_spectrum_38 : decode cX1_spectrum 38 = .ok (.if_icmp .ge 42, 3) := by decide +kernel
theorem dX1_spectrum_41 : decode cX1_spectrum 41 = .ok (.aload_n 0, 1) := by decide +kernel
theorem dX1_spectrum_42 : decode cX1_spectrum 42 = .ok (.getfield 13, 3) := by decide +kernel
theorem dX1_spectrum_45 : decode cX1_spectrum 45 = .ok (.iload 6, 2) := by decide +kernel
theorem dX1_spectrum_47 : decode cX1_spectrum 47 = .ok (.baload, 1) := by decide +kernel
theorem dX1_spectrum_48 : decode cX1_spectrum 48 = .ok (.ifCond .eq 22, 3) := by decide +kernel
theorem dX1_spectrum_51 : decode cX1_spectrum 51 = .ok (.aload_n 0, 1) := by decide +kernel
theorem dX1_spectrum_52 : decode cX1_spectrum 52 = .ok (.iload_n 3, 1) := by decide +kernel
theorem dX1_spectrum_53 : decode cX1_spectrum 53 = .ok (.iload 6, 2) := by decide +kernel
theorem dX1_spectrum_55 : decode cX1_spectrum 55 = .ok (.invokevirtual 111, 3) := by decide +kernel
theorem dX1_spectrum_58 : decode cX1_spectrum 58 = .ok (.iload 4, 2) := by decide +kernel
theorem dX1_spectrum_60 : decode cX1_spectrum 60 = .ok (.if_icmp .ne 10, 3) := by decide +kernel
theorem dX1_spectrum_63 : decode cX1_spectrum 63 = .ok (.iload 5, 2) := by decide +kernel
theorem dX1_spectrum_65 : decode cX1_spectrum 65 = .ok (.iconst 1, 1) := by decide +kernel
theorem dX1_spectrum_66 : decode cX1_spectrum 66 = .ok (.iadd, 1) := by decide +kernel
theorem dX1_spectrum_67 : decode cX1_spectrum 67 = .ok (.goto 5, 3) := by decide +kernel
theorem dX1_spectrum_70 : decode cX1_spectrum 70 = .ok (.iload 5, 2) := by decide +kernel
theorem dX1_spectrum_72 : decode cX1_spectrum 72 = .ok (.istore 5, 2) := by decide +kernel
theorem dX1_spectrum_74 : decode cX1_spectrum 74 = .ok (.iinc 6 1, 3) := by decide +kernel
theorem dX1_spectrum_77 : decode cX1_spectrum 77 = .ok (.goto (-45), 3) := by decide +kernel
theorem dX1_spectrum_80 : decode cX1_spectrum 80 = .ok (.iload 4, 2) := by decide +kernel
theorem dX1_spectrum_82 : decode cX1_spectrum 82 = .ok (.aload_n 0, 1) := by decide +kernel
theorem dX1_spectrum_83 : decode cX1_spectrum 83 = .ok (.getfield 23, 3) := by decide +kernel
theorem dX1_spectrum_86 : decode cX1_spectrum 86 = .ok (.iload_n 3, 1) := by decide +kernel
theorem dX1_spectrum_87 : decode cX1_spectrum 87 = .ok (.iaload, 1) := by decide +kernel
theorem dX1_spectrum_88 : decode cX1_spectrum 88 = .ok (.if_icmp .eq 19, 3) := by decide +kernel
theorem dX1_spectrum_91 : decode cX1_spectrum 91 = .ok (.iload_n 1, 1) := by decide +kernel
theorem dX1_spectrum_92 : decode cX1_spectrum 92 = .ok (.ifCond .le 15, 3) := by decide +kernel
theorem dX1_spectrum_95 : decode cX1_spectrum 95 = .ok (.iload 5, 2) := by decide +kernel
theorem dX1_spectrum_97 : decode cX1_spectrum 97 = .ok (.iload_n 1, 1) := by decide +kernel
theorem dX1_spectrum_98 : decode cX1_spectrum 98 = .ok (.if_icmp .ne 9, 3) := by decide +kernel
theorem dX1_spectrum_101 : decode cX1_spectrum 101 = .ok (.iload_n 2, 1) := by decide +kernel
theorem dX1_spectrum_102 : decode cX1_spectrum 102 = .ok (.iconst 1, 1) := by decide +kernel
theorem dX1_spectrum_103 : decode cX1_spectrum 103 = .ok (.iadd, 1) := by decide +kernel
theorem dX1_spectrum_104 : decode cX1_spectrum 104 = .ok (.goto 4, 3) := by decide +kernel
theorem dX1_spectrum_107 : decode cX1_spectrum 107 = .ok (.iload_n 2, 1) := by decide +kernel
theorem dX1_spectrum_108 : decode cX1_spectrum 108 = .ok (.istore_n 2, 1) := by decide +kernel
theorem dX1_spectrum_109 : decode cX1_spectrum 109 = .ok (.iinc 4 1, 3) := by decide +kernel
theorem dX1_spectrum_112 : decode cX1_spectrum 112 = .ok (.goto (-92), 3) := by decide +kernel
theorem dX1_spectrum_115 : decode cX1_spectrum 115 = .ok (.iinc 3 1, 3) := by decide +kernel
theorem dX1_spectrum_118 : decode cX1_spectrum 118 = .ok (.goto (-109), 3) := by decide +kernel
theorem dX1_spectrum_121 : decode cX1_spectrum 121 = .ok (.iload_n 2, 1) := by decide +kernel
theorem dX1_spectrum_122 : decode cX1_spectrum 122 = .ok (.ireturn, 1) := by decide +kernel
theorem dX1_area_0 : decode cX1_area 0 = .ok (.aload_n 0, 1) := by decide +kernel
theorem dX1_area_1 : decode cX1_area 1 = .ok (.iconst 0, 1) := by decide +kernel
theorem dX1_area_2 : decode cX1_area 2 = .ok (.putfield 38, 3) := by decide +kernel
theorem dX1_area_5 : decode cX1_area 5 = .ok (.aload_n 0, 1) := by decide +kernel
theorem dX1_area_6 : decode cX1_area 6 = .ok (.invokevirtual 94, 3) := by decide +kernel
theorem dX1_area_9 : decode cX1_area 9 = .ok (.istore_n 1, 1) := by decide +kernel
theorem dX1_area_10 : decode cX1_area 10 = .ok (.iconst 0, 1) := by decide +kernel
theorem dX1_area_11 : decode cX1_area 11 = .ok (.istore_n 2, 1) := by decide +kernel
theorem dX1_area_12 : decode cX1_area 12 = .ok (.iconst 0, 1) := by decide +kernel
theorem dX1_area_13 : decode cX1_area 13 = .ok (.istore_n 3, 1) := by decide +kernel
theorem dX1_area_14 : decode cX1_area 14 = .ok (.iload_n 3, 1) := by decide +kernel
theorem dX1_area_15 : decode cX1_area 15 = .ok (.bipush 60, 2) := by decide +kernel
theorem dX1_area_17 : decode cX1_area 17 = .ok (.if_icmp .ge 84, 3) := by decide +kernel
theorem dX1_area_20 : decode cX1_area 20 = .ok (.iconst 0, 1) := by decide +kernel
theorem dX1_area_21 : decode cX1_area 21 = .ok (.istore 4, 2) := by decide +kernel
theorem dX1_area_23 : decode cX1_area 23 = .ok (.iload 4, 2) := by decide +kernel
theorem dX1_area_25 : decode cX1_area 25 = .ok (.aload_n 0, 1) := by decide +kernel
theorem dX1_area_26 : decode cX1_area 26 = .ok (.getfield 42, 3) := by decide +kernel
theorem dX1_area_29 : decode cX1_area 29 = .ok (.if_icmp .ge 66, 3) := by decide +kernel
theorem dX1_area_32 : decode cX1_area 32 = .ok (.aload_n 0, 1) := by decide +kernel
theorem dX1_area_33 : decode cX1_area 33 = .ok (.iload 4, 2) := by decide +kernel
theorem dX1_area_35 : decode cX1_area 35 = .ok (.iload_n 3, 1) := by decide +kernel
theorem dX1_area_36 : decode cX1_area 36 = .ok (.invokevirtual 56, 3) := by decide +kernel
theorem dX1_area_39 : decode cX1_area 39 = .ok (.istore 5, 2) := by decide +kernel
theorem dX1_area_41 : decode cX1_area 41 = .ok (.aload_n 0, 1) := by decide +kernel
theorem dX1_area_42 : decode cX1_area 42 = .ok (.iload 4, 2) := by decide +kernel
theorem dX1_area_44 : decode cX1_area 44 = .ok (.iload_n 3, 1) := by decide +kernel
theorem dX1_area_45 : decode cX1_area 45 = .ok (.invokevirtual 48, 3) := by decide +kernel
theorem dX1_area_48 : decode cX1_area 48 = .ok (.ifCond .lt 39, 3) := by decide +kernel
theorem dX1_area_51 : decode cX1_area 51 = .ok (.iload 5, 2) := by decide +kernel
theorem dX1_area_53 : decode cX1_area 53 = .ok (.ifCond .le 34, 3) := by decide +kernel
theorem dX1_area_56 : decode cX1_area 56 = .ok (.iload 5, 2) := by decide +kernel
theorem dX1_area_58 : decode cX1_area 58 = .ok (.iload_n 1, 1) := by decide +kernel
theorem dX1_area_59 : decode cX1_area 59 = .ok (.if_icmp .ge 28, 3) := by decide +kernel
theorem dX1_area_62 : decode cX1_area 62 = .ok (.iload_n 2, 1) := by decide +kernel
theorem dX1_area_63 : decode cX1_area 63 = .ok (.aload_n 0, 1) := by decide +kernel
theorem dX1_area_64 : decode cX1_area 64 = .ok (.getfield 7, 3) := by decide +kernel
theorem dX1_area_67 : decode cX1_area 67 = .ok (.aload_n 0, 1) := by decide +kernel
theorem dX1_area_68 : decode cX1_area 68 = .ok (.iload 4, 2) := by decide +kernel
theorem dX1_area_70 : decode cX1_area 70 = .ok (.iload_n 3, 1) := by decide +kernel
theorem dX1_area_71 : decode cX1_area 71 = .ok (.invokevirtual 48, 3) := by decide +kernel
theorem dX1_area_74 : decode cX1_area 74 = .ok (.iaload, 1) := by decide +kernel
theorem dX1_area_75 : decode cX1_area 75 = .ok (.iadd, 1) := by decide +kernel
theorem dX1_area_76 : decode cX1_area 76 = .ok (.aload_n 0, 1) := by decide +kernel
theorem dX1_area_77 : decode cX1_area 77 = .ok (.getfield 7, 3) := by decide +kernel
theorem dX1_area_80 : decode cX1_area 80 = .ok (.iload 4, 2) := by decide +kernel
theorem dX1_area_82 : decode cX1_area 82 = .ok (.iaload, 1) := by decide +kernel
theorem dX1_area_83 : decode cX1_area 83 = .ok (.isub, 1) := by decide +kernel
theorem dX1_area_84 : decode cX1_area 84 = .ok (.goto 4, 3) := by decide +kernel
theorem dX1_area_87 : decode cX1_area 87 = .ok (.iload_n 2, 1) := by decide +kernel
theorem dX1_area_88 : decode cX1_area 88 = .ok (.istore_n 2, 1) := by decide +kernel
theorem dX1_area_89 : decode cX1_area 89 = .ok (.iinc 4 1, 3) := by decide +kernel
theorem dX1_area_92 : decode cX1_area 92 = .ok (.goto (-69), 3) := by decide +kernel
theorem dX1_area_95 : decode cX1_area 95 = .ok (.iinc 3 1, 3) := by decide +kernel
theorem dX1_area_98 : decode cX1_area 98 = .ok (.goto (-84), 3) := by decide +kernel
theorem dX1_area_101 : decode cX1_area 101 = .ok (.iload_n 2, 1) := by decide +kernel
theorem dX1_area_102 : decode cX1_area 102 = .ok (.ireturn, 1) := by decide +kernel
theorem dX1_under_0 : decode cX1_under 0 = .ok (.iconst 0, 1) := by decide +kernel
theorem dX1_under_1 : decode cX1_under 1 = .ok (.istore_n 3, 1) := by decide +kernel
theorem dX1_under_2 : decode cX1_under 2 = .ok (.iconst 0, 1) := by decide +kernel
theorem dX1_under_3 : decode cX1_under 3 = .ok (.istore 4, 2) := by decide +kernel
theorem dX1_under_5 : decode cX1_under 5 = .ok (.iload 4, 2) := by decide +kernel
theorem dX1_under_7 : decode cX1_under 7 = .ok (.aload_n 0, 1) := by decide +kernel
theorem dX1_under_8 : decode cX1_under 8 = .ok (.getfield 42, 3) := by decide +kernel
theorem dX1_under_11 : decode cX1_under 11 = .ok (.if_icmp .ge 38, 3) := by decide +kernel
theorem dX1_under_14 : decode cX1_under 14 = .ok (.aload_n 0, 1) := by decide +kernel
theorem dX1_under_15 : decode cX1_under 15 = .ok (.getfield 13, 3) := by decide +kernel
theorem dX1_under_18 : decode cX1_under 18 = .ok (.iload 4, 2) := by decide +kernel
theorem dX1_under_20 : decode cX1_under 20 = .ok (.baload, 1) := by decide +kernel
theorem dX1_under_21 : decode cX1_under 21 = .ok (.ifCond .eq 20, 3) := by decide +kernel
theorem dX1_under_24 : decode cX1_under 24 = .ok (.aload_n 0, 1) := by decide +kernel
theorem dX1_under_25 : decode cX1_under 25 = .ok (.iload_n 1, 1) := by decide +kernel
theorem dX1_under_26 : decode cX1_under 26 = .ok (.iload 4, 2) := by decide +kernel
theorem dX1_under_28 : decode cX1_under 28 = .ok (.iload_n 2, 1) := by decide +kernel
theorem dX1_under_29 : decode cX1_under 29 = .ok (.invokevirtual 52, 3) := by decide +kernel
theorem dX1_under_32 : decode cX1_under 32 = .ok (.ifCond .eq 9, 3) := by decide +kernel
theorem dX1_under_35 : decode cX1_under 35 = .ok (.iload_n 3, 1) := by decide +kernel
theorem dX1_under_36 : decode cX1_under 36 = .ok (.iconst 1, 1) := by decide +kernel
theorem dX1_under_37 : decode cX1_under 37 = .ok (.iadd, 1) := by decide +kernel
theorem dX1_under_38 : decode cX1_under 38 = .ok (.goto 4, 3) := by decide +kernel
theorem dX1_under_41 : decode cX1_under 41 = .ok (.iload_n 3, 1) := by decide +kernel
theorem dX1_under_42 : decode cX1_under 42 = .ok (.istore_n 3, 1) := by decide +kernel
theorem dX1_under_43 : decode cX1_under 43 = .ok (.iinc 4 1, 3) := by decide +kernel
theorem dX1_under_46 : decode cX1_under 46 = .ok (.goto (-41), 3) := by decide +kernel
theorem dX1_under_49 : decode cX1_under 49 = .ok (.iload_n 3, 1) := by decide +kernel
theorem dX1_under_50 : decode cX1_under 50 = .ok (.ireturn, 1) := by decide +kernel
theorem dX1_simplify_0 : decode cX1_simplify 0 = .ok (.aload_n 0, 1) := by decide +kernel
theorem dX1_simplify_1 : decode cX1_simplify 1 = .ok (.iconst 0, 1) := by decide +kernel
theorem dX1_simplify_2 : decode cX1_simplify 2 = .ok (.putfield 38, 3) := by decide +kernel
theorem dX1_simplify_5 : decode cX1_simplify 5 = .ok (.iconst 0, 1) := by decide +kernel
theorem dX1_simplify_6 : decode cX1_simplify 6 = .ok (.istore_n 1, 1) := by decide +kernel
theorem dX1_simplify_7 : decode cX1_simplify 7 = .ok (.iconst 0, 1) := by decide +kernel
theorem dX1_simplify_8 : decode cX1_simplify 8 = .ok (.istore_n 2, 1) := by decide +kernel
theorem dX1_simplify_9 : decode cX1_simplify 9 = .ok (.iload_n 2, 1) := by decide +kernel
theorem dX1_simplify_10 : decode cX1_simplify 10 = .ok (.bipush 14, 2) := by decide +kernel
theorem dX1_simplify_12 : decode cX1_simplify 12 = .ok (.if_icmp .ge 53, 3) := by decide +kernel
theorem dX1_simplify_15 : decode cX1_simplify 15 = .ok (.aload_n 0, 1) := by decide +kernel
theorem dX1_simplify_16 : decode cX1_simplify 16 = .ok (.getfield 29, 3) := by decide +kernel
theorem dX1_simplify_19 : decode cX1_simplify 19 = .ok (.iload_n 2, 1) := by decide +kernel
theorem dX1_simplify_20 : decode cX1_simplify 20 = .ok (.iload_n 2, 1) := by decide +kernel
theorem dX1_simplify_21 : decode cX1_simplify 21 = .ok (.aload_n 0, 1) := by decide +kernel
theorem dX1_simplify_22 : decode cX1_simplify 22 = .ok (.getfield 42, 3) := by decide +kernel
theorem dX1_simplify_25 : decode cX1_simplify 25 = .ok (.if_icmp .ge 15, 3) := by decide +kernel
theorem dX1_simplify_28 : decode cX1_simplify 28 = .ok (.aload_n 0, 1) := by decide +kernel
theorem dX1_simplify_29 : decode cX1_simplify 29 = .ok (.iload_n 2, 1) := by decide +kernel
theorem dX1_simplify_30 : decode cX1_simplify 30 = .ok (.invokevirtual 117, 3) := by decide +kernel
theorem dX1_simplify_33 : decode cX1_simplify 33 = .ok (.ifCond .eq 7, 3) := by decide +kernel
theorem dX1_simplify_36 : decode cX1_simplify 36 = .ok (.iload_n 1, 1) := by decide +kernel
theorem dX1_simplify_37 : decode cX1_simplify 37 = .ok (.goto 4, 3) := by decide +kernel
theorem dX1_simplify_40 : decode cX1_simplify 40 = .ok (.iconst (-1), 1) := by decide +kernel
theorem dX1_simplify_41 : decode cX1_simplify 41 = .ok (.iastore, 1) := by decide +kernel
theorem dX1_simplify_42 : decode cX1_simplify 42 = .ok (.aload_n 0, 1) := by decide +kernel
theorem dX1_simplify_43 : decode cX1_simplify 43 = .ok (.getfield 29, 3) := by decide +kernel
theorem dX1_simplify_46 : decode cX1_simplify 46 = .ok (.iload_n 2, 1) := by decide +kernel
theorem dX1_simplify_47 : decode cX1_simplify 47 = .ok (.iaload, 1) := by decide +kernel
theorem dX1_simplify_48 : decode cX1_simplify 48 = .ok (.ifCond .lt 9, 3) := by decide +kernel
theorem dX1_simplify_51 : decode cX1_simplify 51 = .ok (.iload_n 1, 1) := by decide +kernel
theorem dX1_simplify_52 : decode cX1_simplify 52 = .ok (.iconst 1, 1) := by decide +kernel
theorem dX1_simplify_53 : decode cX1_simplify 53 = .ok (.iadd, 1) := by decide +kernel
theorem dX1_simplify_54 : decode cX1_simplify 54 = .ok (.goto 4, 3) := by decide +kernel
theorem dX1_simplify_57 : decode cX1_simplify 57 = .ok (.iload_n 1, 1) := by decide +kernel
theorem dX1_simplify_58 : decode cX1_simplify 58 = .ok (.istore_n 1, 1) := by decide +kernel
theorem dX1_simplify_59 : decode cX1_simplify 59 = .ok (.iinc 2 1, 3) := by decide +kernel
theorem dX1_simplify_62 : decode cX1_simplify 62 = .ok (.goto (-53), 3) := by decide +kernel
theorem dX1_simplify_65 : decode cX1_simplify 65 = .ok (.iconst 0, 1) := by decide +kernel
theorem dX1_simplify_66 : decode cX1_simplify 66 = .ok (.istore_n 2, 1) := by decide +kernel
theorem dX1_simplify_67 : decode cX1_simplify 67 = .ok (.iload_n 2, 1) := by decide +kernel
theorem dX1_simplify_68 : decode cX1_simplify 68 = .ok (.aload_n 0, 1) := by decide +kernel
theorem dX1_simplify_69 : decode cX1_simplify 69 = .ok (.getfield 42, 3) := by decide +kernel
theorem dX1_simplify_72 : decode cX1_simplify 72 = .ok (.if_icmp .ge 158, 3) := by decide +kernel
theorem dX1_simplify_75 : decode cX1_simplify 75 = .ok (.iconst 0, 1) := by decide +kernel
theorem dX1_simplify_76 : decode cX1_simplify 76 = .ok (.istore_n 3, 1) := by decide +kernel
theorem dX1_simplify_77 : decode cX1_simplify 77 = .ok (.iload_n 3, 1) := by decide +kernel
theorem dX1_simplify_78 : decode cX1_simplify 78 = .ok (.bipush 60, 2) := by decide +kernel
theorem dX1_simplify_80 : decode cX1_simplify 80 = .ok (.if_icmp .ge 73, 3) := by decide +kernel
theorem dX1_simplify_83 : decode cX1_simplify 83 = .ok (.aload_n 0, 1) := by decide +kernel
theorem dX1_simplify_84 : decode cX1_simplify 84 = .ok (.getfield 29, 3) := by decide +kernel
theorem dX1_simplify_87 : decode cX1_simplify 87 = .ok (.iload_n 2, 1) := by decide +kernel
theorem dX1_simplify_88 : decode cX1_simplify 88 = .ok (.iaload, 1) := by decide +kernel
theorem dX1_simplify_89 : decode cX1_simplify 89 = .ok (.ifCond .lt 64, 3) := by decide +kernel
theorem dX1_simplify_92 : decode cX1_simplify 92 = .ok (.aload_n 0, 1) := by decide +kernel
theorem dX1_simplify_93 : decode cX1_simplify 93 = .ok (.iload_n 2, 1) := by decide +kernel
theorem dX1_simplify_94 : decode cX1_simplify 94 = .ok (.iload_n 3, 1) := by decide +kernel
theorem dX1_simplify_95 : decode cX1_simplify 95 = .ok (.invokevirtual 114, 3) := by decide +kernel
theorem dX1_simplify_98 : decode cX1_simplify 98 = .ok (.ifCond .eq 12, 3) := by decide +kernel
theorem dX1_simplify_101 : decode cX1_simplify 101 = .ok (.aload_n 0, 1) := by decide +kernel
theorem dX1_simplify_102 : decode cX1_simplify 102 = .ok (.iload_n 2, 1) := by decide +kernel
theorem dX1_simplify_103 : decode cX1_simplify 103 = .ok (.iload_n 3, 1) := by decide +kernel
theorem dX1_simplify_104 : decode cX1_simplify 104 = .ok (.invokevirtual 120, 3) := by decide +kernel
theorem dX1_simplify_107 : decode cX1_simplify 107 = .ok (.goto 4, 3) := by decide +kernel
theorem dX1_simplify_110 : decode cX1_simplify 110 = .ok (.iconst (-1), 1) := by decide +kernel
theorem dX1_simplify_111 : decode cX1_simplify 111 = .ok (.istore 4, 2) := by decide +kernel
theorem dX1_simplify_113 : decode cX1_simplify 113 = .ok (.aload_n 0, 1) := by decide +kernel
theorem dX1_simplify_114 : decode cX1_simplify 114 = .ok (.getfield 32, 3) := by decide +kernel
theorem dX1_simplify_117 : decode cX1_simplify 117 = .ok (.bipush 60, 2) := by decide +kernel
theorem dX1_simplify_119 : decode cX1_simplify 119 = .ok (.aload_n 0, 1) := by decide +kernel
theorem dX1_simplify_120 : decode cX1_simplify 120 = .ok (.getfield 29, 3) := by decide +kernel
theorem dX1_simplify_123 : decode cX1_simplify 123 = .ok (.iload_n 2, 1) := by decide +kernel
theorem dX1_simplify_124 : decode cX1_simplify 124 = .ok (.iaload, 1) := by decide +kernel
theorem dX1_simplify_125 : decode cX1_simplify 125 = .ok (.imul, 1) := by decide +kernel
theorem dX1_simplify_126 : decode cX1_simplify 126 = .ok (.iload_n 3, 1) := by decide +kernel
theorem dX1_simplify_127 : decode cX1_simplify 127 = .ok (.iadd, 1) := by decide +kernel
theorem dX1_simplify_128 : decode cX1_simplify 128 = .ok (.iload 4, 2) := by decide +kernel
theorem dX1_simplify_130 : decode cX1_simplify 130 = .ok (.ifCond .ge 7, 3) := by decide +kernel
theorem dX1_simplify_133 : decode cX1_simplify 133 = .ok (.iconst 0, 1) := by decide +kernel
theorem dX1_simplify_134 : decode cX1_simplify 134 = .ok (.goto 12, 3) := by decide +kernel
theorem dX1_simplify_137 : decode cX1_simplify 137 = .ok (.aload_n 0, 1) := by decide +kernel
theorem dX1_simplify_138 : decode cX1_simplify 138 = .ok (.getfield 29, 3) := by decide +kernel
theorem dX1_simplify_141 : decode cX1_simplify 141 = .ok (.iload 4, 2) := by decide +kernel
theorem dX1_simplify_143 : decode cX1_simplify 143 = .ok (.iaload, 1) := by decide +kernel
theorem dX1_simplify_144 : decode cX1_simplify 144 = .ok (.iconst 1, 1) := by decide +kernel
theorem dX1_simplify_145 : decode cX1_simplify 145 = .ok (.iadd, 1) := by decide +kernel
theorem dX1_simplify_146 : decode cX1_simplify 146 = .ok (.iastore, 1) := by decide +kernel
theorem dX1_simplify_147 : decode cX1_simplify 147 = .ok (.iinc 3 1, 3) := by decide +kernel
theorem dX1_simplify_150 : decode cX1_simplify 150 = .ok (.goto (-73), 3) := by decide +kernel
theorem dX1_simplify_153 : decode cX1_simplify 153 = .ok (.iconst 0, 1) := by decide +kernel
theorem dX1_simplify_154 : decode cX1_simplify 154 = .ok (.istore_n 3, 1) := by decide +kernel
theorem dX1_simplify_155 : decode cX1_simplify 155 = .ok (.iload_n 3, 1) := by decide +kernel
theorem dX1_simplify_156 : decode cX1_simplify 156 = .ok (.bipush 8, 2) := by decide +kernel
theorem dX1_simplify_158 : decode cX1_simplify 158 = .ok (.if_icmp .ge 66, 3) := by decide +kernel
theorem dX1_simplify_161 : decode cX1_simplify 161 = .ok (.aload_n 0, 1) := by decide +kernel
theorem dX1_simplify_162 : decode cX1_simplify 162 = .ok (.getfield 29, 3) := by decide +kernel
theorem dX1_simplify_165 : decode cX1_simplify 165 = .ok (.iload_n 2, 1) := by decide +kernel
theorem dX1_simplify_166 : decode cX1_simplify 166 = .ok (.iaload, 1) := by decide +kernel
theorem dX1_simplify_167 : decode cX1_simplify 167 = .ok (.ifCond .lt 57, 3) := by decide +kernel
theorem dX1_simplify_170 : decode cX1_simplify 170 = .ok (.aload_n 0, 1) := by decide +kernel
theorem dX1_simplify_171 : decode cX1_simplify 171 = .ok (.getfield 35, 3) := by decide +kernel
theorem dX1_simplify_174 : decode cX1_simplify 174 = .ok (.bipush 14, 2) := by decide +kernel
theorem dX1_simplify_176 : decode cX1_simplify 176 = .ok (.iload_n 3, 1) := by decide +kernel
theorem dX1_simplify_177 : decode cX1_simplify 177 = .ok (.imul, 1) := by decide +kernel
theorem dX1_simplify_178 : decode cX1_simplify 178 = .ok (.aload_n 0, 1) := by decide +kernel
theorem dX1_simplify_179 : decode cX1_simplify 179 = .ok (.getfield 29, 3) := by decide +kernel
theorem dX1_simplify_182 : decode cX1_simplify 182 = .ok (.iload_n 2, 1) := by decide +kernel
theorem dX1_simplify_183 : decode cX1_simplify 183 = .ok (.iaload, 1) := by decide +kernel
theorem dX1_simplify_184 : decode cX1_simplify 184 = .ok (.iadd, 1) := by decide +kernel
theorem dX1_simplify_185 : decode cX1_simplify 185 = .ok (.iload_n 3, 1) := by decide +kernel
theorem dX1_simplify_186 : decode cX1_simplify 186 = .ok (.aload_n 0, 1) := by decide +kernel
theorem dX1_simplify_187 : decode cX1_simplify 187 = .ok (.getfield 45, 3) := by decide +kernel
theorem dX1_simplify_190 : decode cX1_simplify 190 = .ok (.if_icmp .ge 26, 3) := by decide +kernel
theorem dX1_simplify_193 : decode cX1_simplify 193 = .ok (.aload_n 0, 1) := by decide +kernel
theorem dX1_simplify_194 : decode cX1_simplify 194 = .ok (.iload_n 2, 1) := by decide +kernel
theorem dX1_simplify_195 : decode cX1_simplify 195 = .ok (.aload_n 0, 1) := by decide +kernel
theorem dX1_simplify_196 : decode cX1_simplify 196 = .ok (.getfield 20, 3) := by decide +kernel
theorem dX1_simplify_199 : decode cX1_simplify 199 = .ok (.iload_n 3, 1) := by decide +kernel
theorem dX1_simplify_200 : decode cX1_simplify 200 = .ok (.iaload, 1) := by decide +kernel
theorem dX1_simplify_201 : decode cX1_simplify 201 = .ok (.invokevirtual 114, 3) := by decide +kernel
theorem dX1_simplify_204 : decode cX1_simplify 204 = .ok (.ifCond .eq 12, 3) := by decide +kernel
theorem dX1_simplify_207 : decode cX1_simplify 207 = .ok (.aload_n 0, 1) := by decide +kernel
theorem dX1_simplify_208 : decode cX1_simplify 208 = .ok (.iload_n 2, 1) := by decide +kernel
theorem dX1_simplify_209 : decode cX1_simplify 209 = .ok (.iload_n 3, 1) := by decide +kernel
theorem dX1_simplify_210 : decode cX1_simplify 210 = .ok (.invokevirtual 123, 3) := by decide +kernel
theorem dX1_simplify_213 : decode cX1_simplify 213 = .ok (.goto 4, 3) := by decide +kernel
theorem dX1_simplify_216 : decode cX1_simplify 216 = .ok (.iconst 0, 1) := by decide +kernel
theorem dX1_simplify_217 : decode cX1_simplify 217 = .ok (.iastore, 1) := by decide +kernel
theorem dX1_simplify_218 : decode cX1_simplify 218 = .ok (.iinc 3 1, 3) := by decide +kernel
theorem dX1_simplify_221 : decode cX1_simplify 221 = .ok (.goto (-66), 3) := by decide +kernel
theorem dX1_simplify_224 : decode cX1_simplify 224 = .ok (.iinc 2 1, 3) := by decide +kernel
theorem dX1_simplify_227 : decode cX1_simplify 227 = .ok (.goto (-160), 3) := by decide +kernel
theorem dX1_simplify_230 : decode cX1_simplify 230 = .ok (.iconst 0, 1) := by decide +kernel
theorem dX1_simplify_231 : decode cX1_simplify 231 = .ok (.istore_n 2, 1) := by decide +kernel
theorem dX1_simplify_232 : decode cX1_simplify 232 = .ok (.iload_n 2, 1) := by decide +kernel
theorem dX1_simplify_233 : decode cX1_simplify 233 = .ok (.aload_n 0, 1) := by decide +kernel
theorem dX1_simplify_234 : decode cX1_simplify 234 = .ok (.getfield 42, 3) := by decide +kernel
theorem dX1_simplify_237 : decode cX1_simplify 237 = .ok (.if_icmp .ge 52, 3) := by decide +kernel
theorem dX1_simplify_240 : decode cX1_simplify 240 = .ok (.aload_n 0, 1) := by decide +kernel
theorem dX1_simplify_241 : decode cX1_simplify 241 = .ok (.getfield 29, 3) := by decide +kernel
theorem dX1_simplify_244 : decode cX1_simplify 244 = .ok (.iload_n 2, 1) := by decide +kernel
theorem dX1_simplify_245 : decode cX1_simplify 245 = .ok (.iaload, 1) := by decide +kernel
theorem dX1_simplify_246 : decode cX1_simplify 246 = .ok (.ifCond .lt 37, 3) := by decide +kernel
theorem dX1_simplify_249 : decode cX1_simplify 249 = .ok (.aload_n 0, 1) := by decide +kernel
theorem dX1_simplify_250 : decode cX1_simplify 250 = .ok (.getfield 7, 3) := by decide +kernel
theorem dX1_simplify_253 : decode cX1_simplify 253 = .ok (.aload_n 0, 1) := by decide +kernel
theorem dX1_simplify_254 : decode cX1_simplify 254 = .ok (.getfield 29, 3) := by decide +kernel
theorem dX1_simplify_257 : decode cX1_simplify 257 = .ok (.iload_n 2, 1) := by decide +kernel
theorem dX1_simplify_258 : decode cX1_simplify 258 = .ok (.iaload, 1) := by decide +kernel
theorem dX1_simplify_259 : decode cX1_simplify 259 = .ok (.aload_n 0, 1) := by decide +kernel
theorem dX1_simplify_260 : decode cX1_simplify 260 = .ok (.getfield 7, 3) := by decide +kernel
theorem dX1_simplify_263 : decode cX1_simplify 263 = .ok (.iload_n 2, 1) := by decide +kernel
theorem dX1_simplify_264 : decode cX1_simplify 264 = .ok (.iaload, 1) := by decide +kernel
theorem dX1_simplify_265 : decode cX1_simplify 265 = .ok (.iastore, 1) := by decide +kernel
theorem dX1_simplify_266 : decode cX1_simplify 266 = .ok (.aload_n 0, 1) := by decide +kernel
theorem dX1_simplify_267 : decode cX1_simplify 267 = .ok (.getfield 13, 3) := by decide +kernel
theorem dX1_simplify_270 : decode cX1_simplify 270 = .ok (.aload_n 0, 1) := by decide +kernel
theorem dX1_simplify_271 : decode cX1_simplify 271 = .ok (.getfield 29, 3) := by decide +kernel
theorem dX1_simplify_274 : decode cX1_simplify 274 = .ok (.iload_n 2, 1) := by decide +kernel
theorem dX1_simplify_275 : decode cX1_simplify 275 = .ok (.iaload, 1) := by decide +kernel
theorem dX1_simplify_276 : decode cX1_simplify 276 = .ok (.aload_n 0, 1) := by decide +kernel
theorem dX1_simplify_277 : decode cX1_simplify 277 = .ok (.getfield 13, 3) := by decide +kernel
theorem dX1_simplify_280 : decode cX1_simplify 280 = .ok (.iload_n 2, 1) := by decide +kernel
theorem dX1_simplify_281 : decode cX1_simplify 281 = .ok (.baload, 1) := by decide +kernel
theorem dX1_simplify_282 : decode cX1_simplify 282 = .ok (.bastore, 1) := by decide +kernel
theorem dX1_simplify_283 : decode cX1_simplify 283 = .ok (.iinc 2 1, 3) := by decide +kernel
theorem dX1_simplify_286 : decode cX1_simplify 286 = .ok (.goto (-54), 3) := by decide +kernel
theorem dX1_simplify_289 : decode cX1_simplify 289 = .ok (.aload_n 0, 1) := by decide +kernel
theorem dX1_simplify_290 : decode cX1_simplify 290 = .ok (.iload_n 1, 1) := by decide +kernel
theorem dX1_simplify_291 : decode cX1_simplify 291 = .ok (.putfield 42, 3) := by decide +kernel
theorem dX1_simplify_294 : decode cX1_simplify 294 = .ok (.iconst 0, 1) := by decide +kernel
theorem dX1_simplify_295 : decode cX1_simplify 295 = .ok (.istore_n 2, 1) := by decide +kernel
theorem dX1_simplify_296 : decode cX1_simplify 296 = .ok (.iload_n 2, 1) := by decide +kernel
theorem dX1_simplify_297 : decode cX1_simplify 297 = .ok (.bipush 60, 2) := by decide +kernel
theorem dX1_simplify_299 : decode cX1_simplify 299 = .ok (.iload_n 1, 1) := by decide +kernel
theorem dX1_simplify_300 : decode cX1_simplify 300 = .ok (.imul, 1) := by decide +kernel
theorem dX1_simplify_301 : decode cX1_simplify 301 = .ok (.if_icmp .ge 21, 3) := by decide +kernel
theorem dX1_simplify_304 : decode cX1_simplify 304 = .ok (.aload_n 0, 1) := by decide +kernel
theorem dX1_simplify_305 : decode cX1_simplify 305 = .ok (.getfield 17, 3) := by decide +kernel
theorem dX1_simplify_308 : decode cX1_simplify 308 = .ok (.iload_n 2, 1) := by decide +kernel
theorem dX1_simplify_309 : decode cX1_simplify 309 = .ok (.aload_n 0, 1) := by decide +kernel
theorem dX1_simplify_310 : decode cX1_simplify 310 = .ok (.getfield 32, 3) := by decide +kernel
theorem dX1_simplify_313 : decode cX1_simplify 313 = .ok (.iload_n 2, 1) := by decide +kernel
theorem dX1_simplify_314 : decode cX1_simplify 314 = .ok (.iaload, 1) := by decide +kernel
theorem dX1_simplify_315 : decode cX1_simplify 315 = .ok (.iastore, 1) := by decide +kernel
theorem dX1_simplify_316 : decode cX1_simplify 316 = .ok (.iinc 2 1, 3) := by decide +kernel
theorem dX1_simplify_319 : decode cX1_simplify 319 = .ok (.goto (-23), 3) := by decide +kernel
theorem dX1_simplify_322 : decode cX1_simplify 322 = .ok (.iconst 0, 1) := by decide +kernel
theorem dX1_simplify_323 : decode cX1_simplify 323 = .ok (.istore_n 2, 1) := by decide +kernel
theorem dX1_simplify_324 : decode cX1_simplify 324 = .ok (.iload_n 2, 1) := by decide +kernel
theorem dX1_simplify_325 : decode cX1_simplify 325 = .ok (.bipush 112, 2) := by decide +kernel
theorem dX1_simplify_327 : decode cX1_simplify 327 = .ok (.if_icmp .ge 33, 3) := by decide +kernel
theorem dX1_simplify_330 : decode cX1_simplify 330 = .ok (.aload_n 0, 1) := by decide +kernel
theorem dX1_simplify_331 : decode cX1_simplify 331 = .ok (.getfield 26, 3) := by decide +kernel
theorem dX1_simplify_334 : decode cX1_simplify 334 = .ok (.iload_n 2, 1) := by decide +kernel
theorem dX1_simplify_335 : decode cX1_simplify 335 = .ok (.iload_n 2, 1) := by decide +kernel
theorem dX1_simplify_336 : decode cX1_simplify 336 = .ok (.bipush 14, 2) := by decide +kernel
theorem dX1_simplify_338 : decode cX1_simplify 338 = .ok (.irem, 1) := by decide +kernel
theorem dX1_simplify_339 : decode cX1_simplify 339 = .ok (.iload_n 1, 1) := by decide +kernel
theorem dX1_simplify_340 : decode cX1_simplify 340 = .ok (.if_icmp .ge 12, 3) := by decide +kernel
theorem dX1_simplify_343 : decode cX1_simplify 343 = .ok (.aload_n 0, 1) := by decide +kernel
theorem dX1_simplify_344 : decode cX1_simplify 344 = .ok (.getfield 35, 3) := by decide +kernel
theorem dX1_simplify_347 : decode cX1_simplify 347 = .ok (.iload_n 2, 1) := by decide +kernel
theorem dX1_simplify_348 : decode cX1_simplify 348 = .ok (.iaload, 1) := by decide +kernel
theorem dX1_simplify_349 : decode cX1_simplify 349 = .ok (.goto 4, 3) := by decide +kernel
theorem dX1_simplify_352 : decode cX1_simplify 352 = .ok (.iconst 0, 1) := by decide +kernel
theorem dX1_simplify_353 : decode cX1_simplify 353 = .ok (.iastore, 1) := by decide +kernel
theorem dX1_simplify_354 : decode cX1_simplify 354 = .ok (.iinc 2 1, 3) := by decide +kernel
theorem dX1_simplify_357 : decode cX1_simplify 357 = .ok (.goto (-33), 3) := by decide +kernel
theorem dX1_simplify_360 : decode cX1_simplify 360 = .ok (.iload_n 1, 1) := by decide +kernel
theorem dX1_simplify_361 : decode cX1_simplify 361 = .ok (.ireturn, 1) := by decide +kernel
theorem dX1_stays_0 : decode cX1_stays 0 = .ok (.aload_n 0, 1) := by decide +kernel
theorem dX1_stays_1 : decode cX1_stays 1 = .ok (.getfield 13, 3) := by decide +kernel
theorem dX1_stays_4 : decode cX1_stays 4 = .ok (.iload_n 1, 1) := by decide +kernel
theorem dX1_stays_5 : decode cX1_stays 5 = .ok (.baload, 1) := by decide +kernel
theorem dX1_stays_6 : decode cX1_stays 6 = .ok (.istore_n 2, 1) := by decide +kernel
theorem dX1_stays_7 : decode cX1_stays 7 = .ok (.iconst 0, 1) := by decide +kernel
theorem dX1_stays_8 : decode cX1_stays 8 = .ok (.istore_n 3, 1) := by decide +kernel
theorem dX1_stays_9 : decode cX1_stays 9 = .ok (.iload_n 3, 1) := by decide +kernel
theorem dX1_stays_10 : decode cX1_stays 10 = .ok (.bipush 60, 2) := by decide +kernel
theorem dX1_stays_12 : decode cX1_stays 12 = .ok (.if_icmp .ge 28, 3) := by decide +kernel
theorem dX1_stays_15 : decode cX1_stays 15 = .ok (.iload_n 2, 1) := by decide +kernel
theorem dX1_stays_16 : decode cX1_stays 16 = .ok (.ifCond .ne 12, 3) := by decide +kernel
theorem dX1_stays_19 : decode cX1_stays 19 = .ok (.aload_n 0, 1) := by decide +kernel
theorem dX1_stays_20 : decode cX1_stays 20 = .ok (.iload_n 1, 1) := by decide +kernel
theorem dX1_stays_21 : decode cX1_stays 21 = .ok (.iload_n 3, 1) := by decide +kernel
theorem dX1_stays_22 : decode cX1_stays 22 = .ok (.invokevirtual 59, 3) := by decide +kernel
theorem dX1_stays_25 : decode cX1_stays 25 = .ok (.ifCond .eq 7, 3) := by decide +kernel
theorem dX1_stays_28 : decode cX1_stays 28 = .ok (.iconst 1, 1) := by decide +kernel
theorem dX1_stays_29 : decode cX1_stays 29 = .ok (.goto 4, 3) := by decide +kernel
theorem dX1_stays_32 : decode cX1_stays 32 = .ok (.iconst 0, 1) := by decide +kernel
theorem dX1_stays_33 : decode cX1_stays 33 = .ok (.istore_n 2, 1) := by decide +kernel
theorem dX1_stays_34 : decode cX1_stays 34 = .ok (.iinc 3 1, 3) := by decide +kernel
theorem dX1_stays_37 : decode cX1_stays 37 = .ok (.goto (-28), 3) := by decide +kernel
theorem dX1_stays_40 : decode cX1_stays 40 = .ok (.iload_n 2, 1) := by decide +kernel
theorem dX1_stays_41 : decode cX1_stays 41 = .ok (.ireturn, 1) := by decide +kernel
theorem dX1_isFork_0 : decode cX1_isFork 0 = .ok (.iconst 0, 1) := by decide +kernel
theorem dX1_isFork_1 : decode cX1_isFork 1 = .ok (.istore_n 3, 1) := by decide +kernel
theorem dX1_isFork_2 : decode cX1_isFork 2 = .ok (.iconst 0, 1) := by decide +kernel
theorem dX1_isFork_3 : decode cX1_isFork 3 = .ok (.istore 4, 2) := by decide +kernel
theorem dX1_isFork_5 : decode cX1_isFork 5 = .ok (.iload 4, 2) := by decide +kernel
theorem dX1_isFork_7 : decode cX1_isFork 7 = .ok (.aload_n 0, 1) := by decide +kernel
theorem dX1_isFork_8 : decode cX1_isFork 8 = .ok (.getfield 42, 3) := by decide +kernel
theorem dX1_isFork_11 : decode cX1_isFork 11 = .ok (.if_icmp .ge 38, 3) := by decide +kernel
theorem dX1_isFork_14 : decode cX1_isFork 14 = .ok (.aload_n 0, 1) := by decide +kernel
theorem dX1_isFork_15 : decode cX1_isFork 15 = .ok (.iload 4, 2) := by decide +kernel
theorem dX1_isFork_17 : decode cX1_isFork 17 = .ok (.iload_n 2, 1) := by decide +kernel
theorem dX1_isFork_18 : decode cX1_isFork 18 = .ok (.invokevirtual 48, 3) := by decide +kernel
theorem dX1_isFork_21 : decode cX1_isFork 21 = .ok (.iload_n 1, 1) := by decide +kernel
theorem dX1_isFork_22 : decode cX1_isFork 22 = .ok (.if_icmp .ne 19, 3) := by decide +kernel
theorem dX1_isFork_25 : decode cX1_isFork 25 = .ok (.aload_n 0, 1) := by decide +kernel
theorem dX1_isFork_26 : decode cX1_isFork 26 = .ok (.iload 4, 2) := by decide +kernel
theorem dX1_isFork_28 : decode cX1_isFork 28 = .ok (.iload_n 2, 1) := by decide +kernel
theorem dX1_isFork_29 : decode cX1_isFork 29 = .ok (.invokevirtual 56, 3) := by decide +kernel
theorem dX1_isFork_32 : decode cX1_isFork 32 = .ok (.ifCond .le 9, 3) := by decide +kernel
theorem dX1_isFork_35 : decode cX1_isFork 35 = .ok (.iload_n 3, 1) := by decide +kernel
theorem dX1_isFork_36 : decode cX1_isFork 36 = .ok (.iconst 1, 1) := by decide +kernel
theorem dX1_isFork_37 : decode cX1_isFork 37 = .ok (.iadd, 1) := by decide +kernel
theorem dX1_isFork_38 : decode cX1_isFork 38 = .ok (.goto 4, 3) := by decide +kernel
theorem dX1_isFork_41 : decode cX1_isFork 41 = .ok (.iload_n 3, 1) := by decide +kernel
theorem dX1_isFork_42 : decode cX1_isFork 42 = .ok (.istore_n 3, 1) := by decide +kernel
theorem dX1_isFork_43 : decode cX1_isFork 43 = .ok (.iinc 4 1, 3) := by decide +kernel
theorem dX1_isFork_46 : decode cX1_isFork 46 = .ok (.goto (-41), 3) := by decide +kernel
theorem dX1_isFork_49 : decode cX1_isFork 49 = .ok (.iload_n 3, 1) := by decide +kernel
theorem dX1_isFork_50 : decode cX1_isFork 50 = .ok (.iconst 1, 1) := by decide +kernel
theorem dX1_isFork_51 : decode cX1_isFork 51 = .ok (.if_icmp .le 7, 3) := by decide +kernel
theorem dX1_isFork_54 : decode cX1_isFork 54 = .ok (.iconst 1, 1) := by decide +kernel
theorem dX1_isFork_55 : decode cX1_isFork 55 = .ok (.goto 4, 3) := by decide +kernel
theorem dX1_isFork_58 : decode cX1_isFork 58 = .ok (.iconst 0, 1) := by decide +kernel
theorem dX1_isFork_59 : decode cX1_isFork 59 = .ok (.ireturn, 1) := by decide +kernel
theorem dX1_matters_0 : decode cX1_matters 0 = .ok (.aload_n 0, 1) := by decide +kernel
theorem dX1_matters_1 : decode cX1_matters 1 = .ok (.getfield 13, 3) := by decide +kernel
theorem dX1_matters_4 : decode cX1_matters 4 = .ok (.iload_n 1, 1) := by decide +kernel
theorem dX1_matters_5 : decode cX1_matters 5 = .ok (.baload, 1) := by decide +kernel
theorem dX1_matters_6 : decode cX1_matters 6 = .ok (.ifCond .ne 12, 3) := by decide +kernel
theorem dX1_matters_9 : decode cX1_matters 9 = .ok (.aload_n 0, 1) := by decide +kernel
theorem dX1_matters_10 : decode cX1_matters 10 = .ok (.iload_n 1, 1) := by decide +kernel
theorem dX1_matters_11 : decode cX1_matters 11 = .ok (.iload_n 2, 1) := by decide +kernel
theorem dX1_matters_12 : decode cX1_matters 12 = .ok (.invokevirtual 59, 3) := by decide +kernel
theorem dX1_matters_15 : decode cX1_matters 15 = .ok (.ifCond .eq 7, 3) := by decide +kernel
theorem dX1_matters_18 : decode cX1_matters 18 = .ok (.iconst 1, 1) := by decide +kernel
theorem dX1_matters_19 : decode cX1_matters 19 = .ok (.goto 4, 3) := by decide +kernel
theorem dX1_matters_22 : decode cX1_matters 22 = .ok (.iconst 0, 1) := by decide +kernel
theorem dX1_matters_23 : decode cX1_matters 23 = .ok (.ireturn, 1) := by decide +kernel
theorem dX1_nearest_0 : decode cX1_nearest 0 = .ok (.aload_n 0, 1) := by decide +kernel
theorem dX1_nearest_1 : decode cX1_nearest 1 = .ok (.iload_n 1, 1) := by decide +kernel
theorem dX1_nearest_2 : decode cX1_nearest 2 = .ok (.iload_n 2, 1) := by decide +kernel
theorem dX1_nearest_3 : decode cX1_nearest 3 = .ok (.invokevirtual 48, 3) := by decide +kernel
theorem dX1_nearest_6 : decode cX1_nearest 6 = .ok (.istore_n 3, 1) := by decide +kernel
theorem dX1_nearest_7 : decode cX1_nearest 7 = .ok (.iload_n 3, 1) := by decide +kernel
theorem dX1_nearest_8 : decode cX1_nearest 8 = .ok (.ifCond .lt 22, 3) := by decide +kernel
theorem dX1_nearest_11 : decode cX1_nearest 11 = .ok (.aload_n 0, 1) := by decide +kernel
theorem dX1_nearest_12 : decode cX1_nearest 12 = .ok (.iload_n 3, 1) := by decide +kernel
theorem dX1_nearest_13 : decode cX1_nearest 13 = .ok (.iload_n 2, 1) := by decide +kernel
theorem dX1_nearest_14 : decode cX1_nearest 14 = .ok (.invokevirtual 114, 3) := by decide +kernel
theorem dX1_nearest_17 : decode cX1_nearest 17 = .ok (.ifCond .ne 13, 3) := by decide +kernel
theorem dX1_nearest_20 : decode cX1_nearest 20 = .ok (.aload_n 0, 1) := by decide +kernel
theorem dX1_nearest_21 : decode cX1_nearest 21 = .ok (.iload_n 3, 1) := by decide +kernel
theorem dX1_nearest_22 : decode cX1_nearest 22 = .ok (.iload_n 2, 1) := by decide +kernel
theorem dX1_nearest_23 : decode cX1_nearest 23 = .ok (.invokevirtual 48, 3) := by decide +kernel
theorem dX1_nearest_26 : decode cX1_nearest 26 = .ok (.istore_n 3, 1) := by decide +kernel
theorem dX1_nearest_27 : decode cX1_nearest 27 = .ok (.goto (-20), 3) := by decide +kernel
theorem dX1_nearest_30 : decode cX1_nearest 30 = .ok (.iload_n 3, 1) := by decide +kernel
theorem dX1_nearest_31 : decode cX1_nearest 31 = .ok (.ireturn, 1) := by decide +kernel
theorem dX1_comes_0 : decode cX1_comes 0 = .ok (.iload_n 1, 1) := by decide +kernel
theorem dX1_comes_1 : decode cX1_comes 1 = .ok (.istore_n 3, 1) := by decide +kernel
theorem dX1_comes_2 : decode cX1_comes 2 = .ok (.aload_n 0, 1) := by decide +kernel
theorem dX1_comes_3 : decode cX1_comes 3 = .ok (.getfield 26, 3) := by decide +kernel
theorem dX1_comes_6 : decode cX1_comes 6 = .ok (.bipush 14, 2) := by decide +kernel
theorem dX1_comes_8 : decode cX1_comes 8 = .ok (.iload_n 2, 1) := by decide +kernel
theorem dX1_comes_9 : decode cX1_comes 9 = .ok (.imul, 1) := by decide +kernel
theorem dX1_comes_10 : decode cX1_comes 10 = .ok (.iload_n 1, 1) := by decide +kernel
theorem dX1_comes_11 : decode cX1_comes 11 = .ok (.iadd, 1) := by decide +kernel
theorem dX1_comes_12 : decode cX1_comes 12 = .ok (.iaload, 1) := by decide +kernel
theorem dX1_comes_13 : decode cX1_comes 13 = .ok (.istore 4, 2) := by decide +kernel
theorem dX1_comes_15 : decode cX1_comes 15 = .ok (.iload 4, 2) := by decide +kernel
theorem dX1_comes_17 : decode cX1_comes 17 = .ok (.ifCond .ne 67, 3) := by decide +kernel
theorem dX1_comes_20 : decode cX1_comes 20 = .ok (.iload_n 3, 1) := by decide +kernel
theorem dX1_comes_21 : decode cX1_comes 21 = .ok (.ifCond .lt 63, 3) := by decide +kernel
theorem dX1_comes_24 : decode cX1_comes 24 = .ok (.aload_n 0, 1) := by decide +kernel
theorem dX1_comes_25 : decode cX1_comes 25 = .ok (.iload_n 3, 1) := by decide +kernel
theorem dX1_comes_26 : decode cX1_comes 26 = .ok (.aload_n 0, 1) := by decide +kernel
theorem dX1_comes_27 : decode cX1_comes 27 = .ok (.getfield 20, 3) := by decide +kernel
theorem dX1_comes_30 : decode cX1_comes 30 = .ok (.iload_n 2, 1) := by decide +kernel
theorem dX1_comes_31 : decode cX1_comes 31 = .ok (.iaload, 1) := by decide +kernel
theorem dX1_comes_32 : decode cX1_comes 32 = .ok (.invokevirtual 48, 3) := by decide +kernel
theorem dX1_comes_35 : decode cX1_comes 35 = .ok (.istore_n 3, 1) := by decide +kernel
theorem dX1_comes_36 : decode cX1_comes 36 = .ok (.iload_n 3, 1) := by decide +kernel
theorem dX1_comes_37 : decode cX1_comes 37 = .ok (.ifCond .lt 21, 3) := by decide +kernel
theorem dX1_comes_40 : decode cX1_comes 40 = .ok (.aload_n 0, 1) := by decide +kernel
theorem dX1_comes_41 : decode cX1_comes 41 = .ok (.iload_n 3, 1) := by decide +kernel
theorem dX1_comes_42 : decode cX1_comes 42 = .ok (.aload_n 0, 1) := by decide +kernel
theorem dX1_comes_43 : decode cX1_comes 43 = .ok (.getfield 20, 3) := by decide +kernel
theorem dX1_comes_46 : decode cX1_comes 46 = .ok (.iload_n 2, 1) := by decide +kernel
theorem dX1_comes_47 : decode cX1_comes 47 = .ok (.iaload, 1) := by decide +kernel
theorem dX1_comes_48 : decode cX1_comes 48 = .ok (.invokevirtual 114, 3) := by decide +kernel
theorem dX1_comes_51 : decode cX1_comes 51 = .ok (.ifCond .eq 7, 3) := by decide +kernel
theorem dX1_comes_54 : decode cX1_comes 54 = .ok (.iconst (-1), 1) := by decide +kernel
theorem dX1_comes_55 : decode cX1_comes 55 = .ok (.goto 4, 3) := by decide +kernel
theorem dX1_comes_58 : decode cX1_comes 58 = .ok (.iload_n 3, 1) := by decide +kernel
theorem dX1_comes_59 : decode cX1_comes 59 = .ok (.istore_n 3, 1) := by decide +kernel
theorem dX1_comes_60 : decode cX1_comes 60 = .ok (.iload_n 3, 1) := by decide +kernel
theorem dX1_comes_61 : decode cX1_comes 61 = .ok (.ifCond .lt 17, 3) := by decide +kernel
theorem dX1_comes_64 : decode cX1_comes 64 = .ok (.aload_n 0, 1) := by decide +kernel
theorem dX1_comes_65 : decode cX1_comes 65 = .ok (.getfield 26, 3) := by decide +kernel
theorem dX1_comes_68 : decode cX1_comes 68 = .ok (.bipush 14, 2) := by decide +kernel
theorem dX1_comes_70 : decode cX1_comes 70 = .ok (.iload_n 2, 1) := by decide +kernel
theorem dX1_comes_71 : decode cX1_comes 71 = .ok (.imul, 1) := by decide +kernel
theorem dX1_comes_72 : decode cX1_comes 72 = .ok (.iload_n 3, 1) := by decide +kernel
theorem dX1_comes_73 : decode cX1_comes 73 = .ok (.iadd, 1) := by decide +kernel
theorem dX1_comes_74 : decode cX1_comes 74 = .ok (.iaload, 1) := by decide +kernel
theorem dX1_comes_75 : decode cX1_comes 75 = .ok (.goto 4, 3) := by decide +kernel
theorem dX1_comes_78 : decode cX1_comes 78 = .ok (.iconst 0, 1) := by decide +kernel
theorem dX1_comes_79 : decode cX1_comes 79 = .ok (.istore 4, 2) := by decide +kernel
theorem dX1_comes_81 : decode cX1_comes 81 = .ok (.goto (-66), 3) := by decide +kernel
theorem dX1_comes_84 : decode cX1_comes 84 = .ok (.iload 4, 2) := by decide +kernel
theorem dX1_comes_86 : decode cX1_comes 86 = .ok (.ireturn, 1) := by decide +kernel
theorem dX1_became_0 : decode cX1_became 0 = .ok (.aload_n 0, 1) := by decide +kernel
theorem dX1_became_1 : decode cX1_became 1 = .ok (.iconst 0, 1) := by decide +kernel
theorem dX1_became_2 : decode cX1_became 2 = .ok (.putfield 38, 3) := by decide +kernel
theorem dX1_became_5 : decode cX1_became 5 = .ok (.iload_n 1, 1) := by decide +kernel
theorem dX1_became_6 : decode cX1_became 6 = .ok (.ifCond .lt 9, 3) := by decide +kernel
theorem dX1_became_9 : decode cX1_became 9 = .ok (.iload_n 1, 1) := by decide +kernel
theorem dX1_became_10 : decode cX1_became 10 = .ok (.bipush 13, 2) := by decide +kernel
theorem dX1_became_12 : decode cX1_became 12 = .ok (.if_icmp .le 7, 3) := by decide +kernel
theorem dX1_became_15 : decode cX1_became 15 = .ok (.iconst (-1), 1) := by decide +kernel
theorem dX1_became_16 : decode cX1_became 16 = .ok (.goto 9, 3) := by decide +kernel
theorem dX1_became_19 : decode cX1_became 19 = .ok (.aload_n 0, 1) := by decide +kernel
theorem dX1_became_20 : decode cX1_became 20 = .ok (.getfield 29, 3) := by decide +kernel
theorem dX1_became_23 : decode cX1_became 23 = .ok (.iload_n 1, 1) := by decide +kernel
theorem dX1_became_24 : decode cX1_became 24 = .ok (.iaload, 1) := by decide +kernel
theorem dX1_became_25 : decode cX1_became 25 = .ok (.ireturn, 1) := by decide +kernel
