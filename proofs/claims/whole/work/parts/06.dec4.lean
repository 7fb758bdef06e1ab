theorem dX7_outside_5 : decode cX7_outside 5 = .ok (.invokestatic 35, 3) := by decide +kernel
theorem dX7_outside_8 : decode cX7_outside 8 = .ok (.ifCond .eq 11, 3) := by decide +kernel
theorem dX7_outside_11 : decode cX7_outside 11 = .ok (.aload_n 0, 1) := by decide +kernel
theorem dX7_outside_12 : decode cX7_outside 12 = .ok (.iload_n 1, 1) := by decide +kernel
theorem dX7_outside_13 : decode cX7_outside 13 = .ok (.invokevirtual 115, 3) := by decide +kernel
theorem dX7_outside_16 : decode cX7_outside 16 = .ok (.goto 5, 3) := by decide +kernel
theorem dX7_outside_19 : decode cX7_outside 19 = .ok (.ldc 46, 2) := by decide +kernel
theorem dX7_outside_21 : decode cX7_outside 21 = .ok (.ireturn, 1) := by decide +kernel
theorem dX7_flows_0 : decode cX7_flows 0 = .ok (.aload_n 0, 1) := by decide +kernel
theorem dX7_flows_1 : decode cX7_flows 1 = .ok (.iload_n 1, 1) := by decide +kernel
theorem dX7_flows_2 : decode cX7_flows 2 = .ok (.bipush 7, 2) := by decide +kernel
theorem dX7_flows_4 : decode cX7_flows 4 = .ok (.invokevirtual 39, 3) := by decide +kernel
theorem dX7_flows_7 : decode cX7_flows 7 = .ok (.iconst 1, 1) := by decide +kernel
theorem dX7_flows_8 : decode cX7_flows 8 = .ok (.if_icmp .ne 22, 3) := by decide +kernel
theorem dX7_flows_11 : decode cX7_flows 11 = .ok (.aload_n 0, 1) := by decide +kernel
theorem dX7_flows_12 : decode cX7_flows 12 = .ok (.iload_n 1, 1) := by decide +kernel
theorem dX7_flows_13 : decode cX7_flows 13 = .ok (.bipush 14, 2) := by decide +kernel
theorem dX7_flows_15 : decode cX7_flows 15 = .ok (.invokevirtual 39, 3) := by decide +kernel
theorem dX7_flows_18 : decode cX7_flows 18 = .ok (.ifCond .ne 12, 3) := by decide +kernel
theorem dX7_flows_21 : decode cX7_flows 21 = .ok (.aload_n 0, 1) := by decide +kernel
theorem dX7_flows_22 : decode cX7_flows 22 = .ok (.iload_n 1, 1) := by decide +kernel
theorem dX7_flows_23 : decode cX7_flows 23 = .ok (.iconst 2, 1) := by decide +kernel
theorem dX7_flows_24 : decode cX7_flows 24 = .ok (.invokevirtual 39, 3) := by decide +kernel
theorem dX7_flows_27 : decode cX7_flows 27 = .ok (.goto 4, 3) := by decide +kernel
theorem dX7_flows_30 : decode cX7_flows 30 = .ok (.iconst 0, 1) := by decide +kernel
theorem dX7_flows_31 : decode cX7_flows 31 = .ok (.istore_n 3, 1) := by decide +kernel
theorem dX7_flows_32 : decode cX7_flows 32 = .ok (.aload_n 0, 1) := by decide +kernel
theorem dX7_flows_33 : decode cX7_flows 33 = .ok (.iload_n 1, 1) := by decide +kernel
theorem dX7_flows_34 : decode cX7_flows 34 = .ok (.iconst 3, 1) := by decide +kernel
theorem dX7_flows_35 : decode cX7_flows 35 = .ok (.invokevirtual 39, 3) := by decide +kernel
theorem dX7_flows_38 : decode cX7_flows 38 = .ok (.aload_n 0, 1) := by decide +kernel
theorem dX7_flows_39 : decode cX7_flows 39 = .ok (.getfield 26, 3) := by decide +kernel
theorem dX7_flows_42 : decode cX7_flows 42 = .ok (.iload_n 1, 1) := by decide +kernel
theorem dX7_flows_43 : decode cX7_flows 43 = .ok (.iaload, 1) := by decide +kernel
theorem dX7_flows_44 : decode cX7_flows 44 = .ok (.iload_n 2, 1) := by decide +kernel
theorem dX7_flows_45 : decode cX7_flows 45 = .ok (.isub, 1) := by decide +kernel
theorem dX7_flows_46 : decode cX7_flows 46 = .ok (.imul, 1) := by decide +kernel
theorem dX7_flows_47 : decode cX7_flows 47 = .ok (.sipush 1000, 3) := by decide +kernel
theorem dX7_flows_50 : decode cX7_flows 50 = .ok (.idiv, 1) := by decide +kernel
theorem dX7_flows_51 : decode cX7_flows 51 = .ok (.istore 4, 2) := by decide +kernel
theorem dX7_flows_53 : decode cX7_flows 53 = .ok (.iconst 0, 1) := by decide +kernel
theorem dX7_flows_54 : decode cX7_flows 54 = .ok (.istore 5, 2) := by decide +kernel
theorem dX7_flows_56 : decode cX7_flows 56 = .ok (.iconst 0, 1) := by decide +kernel
theorem dX7_flows_57 : decode cX7_flows 57 = .ok (.istore 6, 2) := by decide +kernel
theorem dX7_flows_59 : decode cX7_flows 59 = .ok (.iload 6, 2) := by decide +kernel
theorem dX7_flows_61 : decode cX7_flows 61 = .ok (.aload_n 0, 1) := by decide +kernel
theorem dX7_flows_62 : decode cX7_flows 62 = .ok (.getfield 7, 3) := by decide +kernel
theorem dX7_flows_65 : decode cX7_flows 65 = .ok (.bipush 7, 2) := by decide +kernel
theorem dX7_flows_67 : decode cX7_flows 67 = .ok (.iaload, 1) := by decide +kernel
theorem dX7_flows_68 : decode cX7_flows 68 = .ok (.if_icmp .ge 48, 3) := by decide +kernel
theorem dX7_flows_71 : decode cX7_flows 71 = .ok (.iload 5, 2) := by decide +kernel
theorem dX7_flows_73 : decode cX7_flows 73 = .ok (.aload_n 0, 1) := by decide +kernel
theorem dX7_flows_74 : decode cX7_flows 74 = .ok (.getfield 7, 3) := by decide +kernel
theorem dX7_flows_77 : decode cX7_flows 77 = .ok (.bipush 34, 2) := by decide +kernel
theorem dX7_flows_79 : decode cX7_flows 79 = .ok (.bipush 6, 2) := by decide +kernel
theorem dX7_flows_81 : decode cX7_flows 81 = .ok (.iload_n 1, 1) := by decide +kernel
theorem dX7_flows_82 : decode cX7_flows 82 = .ok (.imul, 1) := by decide +kernel
theorem dX7_flows_83 : decode cX7_flows 83 = .ok (.iadd, 1) := by decide +kernel
theorem dX7_flows_84 : decode cX7_flows 84 = .ok (.iload 6, 2) := by decide +kernel
theorem dX7_flows_86 : decode cX7_flows 86 = .ok (.iadd, 1) := by decide +kernel
theorem dX7_flows_87 : decode cX7_flows 87 = .ok (.iaload, 1) := by decide +kernel
theorem dX7_flows_88 : decode cX7_flows 88 = .ok (.aload_n 0, 1) := by decide +kernel
theorem dX7_flows_89 : decode cX7_flows 89 = .ok (.getfield 26, 3) := by decide +kernel
theorem dX7_flows_92 : decode cX7_flows 92 = .ok (.iload_n 1, 1) := by decide +kernel
theorem dX7_flows_93 : decode cX7_flows 93 = .ok (.iaload, 1) := by decide +kernel
theorem dX7_flows_94 : decode cX7_flows 94 = .ok (.aload_n 0, 1) := by decide +kernel
theorem dX7_flows_95 : decode cX7_flows 95 = .ok (.getfield 26, 3) := by decide +kernel
theorem dX7_flows_98 : decode cX7_flows 98 = .ok (.iload 6, 2) := by decide +kernel
theorem dX7_flows_100 : decode cX7_flows 100 = .ok (.iaload, 1) := by decide +kernel
theorem dX7_flows_101 : decode cX7_flows 101 = .ok (.isub, 1) := by decide +kernel
theorem dX7_flows_102 : decode cX7_flows 102 = .ok (.imul, 1) := by decide +kernel
theorem dX7_flows_103 : decode cX7_flows 103 = .ok (.sipush 1000, 3) := by decide +kernel
theorem dX7_flows_106 : decode cX7_flows 106 = .ok (.idiv, 1) := by decide +kernel
theorem dX7_flows_107 : decode cX7_flows 107 = .ok (.iadd, 1) := by decide +kernel
theorem dX7_flows_108 : decode cX7_flows 108 = .ok (.istore 5, 2) := by decide +kernel
theorem dX7_flows_110 : decode cX7_flows 110 = .ok (.iinc 6 1, 3) := by decide +kernel
theorem dX7_flows_113 : decode cX7_flows 113 = .ok (.goto (-54), 3) := by decide +kernel
theorem dX7_flows_116 : decode cX7_flows 116 = .ok (.aload_n 0, 1) := by decide +kernel
theorem dX7_flows_117 : decode cX7_flows 117 = .ok (.iload_n 1, 1) := by decide +kernel
theorem dX7_flows_118 : decode cX7_flows 118 = .ok (.iconst 1, 1) := by decide +kernel
theorem dX7_flows_119 : decode cX7_flows 119 = .ok (.iload_n 3, 1) := by decide +kernel
theorem dX7_flows_120 : decode cX7_flows 120 = .ok (.iload 4, 2) := by decide +kernel
theorem dX7_flows_122 : decode cX7_flows 122 = .ok (.isub, 1) := by decide +kernel
theorem dX7_flows_123 : decode cX7_flows 123 = .ok (.iload 5, 2) := by decide +kernel
theorem dX7_flows_125 : decode cX7_flows 125 = .ok (.isub, 1) := by decide +kernel
theorem dX7_flows_126 : decode cX7_flows 126 = .ok (.invokevirtual 81, 3) := by decide +kernel
theorem dX7_flows_129 : decode cX7_flows 129 = .ok (.aload_n 0, 1) := by decide +kernel
theorem dX7_flows_130 : decode cX7_flows 130 = .ok (.iload_n 1, 1) := by decide +kernel
theorem dX7_flows_131 : decode cX7_flows 131 = .ok (.bipush 17, 2) := by decide +kernel
theorem dX7_flows_133 : decode cX7_flows 133 = .ok (.iload_n 3, 1) := by decide +kernel
theorem dX7_flows_134 : decode cX7_flows 134 = .ok (.invokevirtual 81, 3) := by decide +kernel
theorem dX7_flows_137 : decode cX7_flows 137 = .ok (.aload_n 0, 1) := by decide +kernel
theorem dX7_flows_138 : decode cX7_flows 138 = .ok (.iload_n 1, 1) := by decide +kernel
theorem dX7_flows_139 : decode cX7_flows 139 = .ok (.bipush 18, 2) := by decide +kernel
theorem dX7_flows_141 : decode cX7_flows 141 = .ok (.iload 4, 2) := by decide +kernel
theorem dX7_flows_143 : decode cX7_flows 143 = .ok (.invokevirtual 81, 3) := by decide +kernel
theorem dX7_flows_146 : decode cX7_flows 146 = .ok (.aload_n 0, 1) := by decide +kernel
theorem dX7_flows_147 : decode cX7_flows 147 = .ok (.iload_n 1, 1) := by decide +kernel
theorem dX7_flows_148 : decode cX7_flows 148 = .ok (.bipush 19, 2) := by decide +kernel
theorem dX7_flows_150 : decode cX7_flows 150 = .ok (.iload 5, 2) := by decide +kernel
theorem dX7_flows_152 : decode cX7_flows 152 = .ok (.invokevirtual 81, 3) := by decide +kernel
theorem dX7_flows_155 : decode cX7_flows 155 = .ok (.return_, 1) := by decide +kernel
theorem dX7_closes_0 : decode cX7_closes 0 = .ok (.aload_n 0, 1) := by decide +kernel
theorem dX7_closes_1 : decode cX7_closes 1 = .ok (.iload_n 1, 1) := by decide +kernel
theorem dX7_closes_2 : decode cX7_closes 2 = .ok (.bipush 7, 2) := by decide +kernel
theorem dX7_closes_4 : decode cX7_closes 4 = .ok (.iconst 1, 1) := by decide +kernel
theorem dX7_closes_5 : decode cX7_closes 5 = .ok (.invokevirtual 51, 3) := by decide +kernel
theorem dX7_closes_8 : decode cX7_closes 8 = .ok (.aload_n 0, 1) := by decide +kernel
theorem dX7_closes_9 : decode cX7_closes 9 = .ok (.iload_n 1, 1) := by decide +kernel
theorem dX7_closes_10 : decode cX7_closes 10 = .ok (.bipush 11, 2) := by decide +kernel
theorem dX7_closes_12 : decode cX7_closes 12 = .ok (.iconst 1, 1) := by decide +kernel
theorem dX7_closes_13 : decode cX7_closes 13 = .ok (.invokevirtual 81, 3) := by decide +kernel
theorem dX7_closes_16 : decode cX7_closes 16 = .ok (.aload_n 0, 1) := by decide +kernel
theorem dX7_closes_17 : decode cX7_closes 17 = .ok (.iload_n 1, 1) := by decide +kernel
theorem dX7_closes_18 : decode cX7_closes 18 = .ok (.bipush 9, 2) := by decide +kernel
theorem dX7_closes_20 : decode cX7_closes 20 = .ok (.aload_n 0, 1) := by decide +kernel
theorem dX7_closes_21 : decode cX7_closes 21 = .ok (.iload_n 1, 1) := by decide +kernel
theorem dX7_closes_22 : decode cX7_closes 22 = .ok (.iconst 2, 1) := by decide +kernel
theorem dX7_closes_23 : decode cX7_closes 23 = .ok (.invokevirtual 39, 3) := by decide +kernel
theorem dX7_closes_26 : decode cX7_closes 26 = .ok (.invokevirtual 81, 3) := by decide +kernel
theorem dX7_closes_29 : decode cX7_closes 29 = .ok (.aload_n 0, 1) := by decide +kernel
theorem dX7_closes_30 : decode cX7_closes 30 = .ok (.iload_n 1, 1) := by decide +kernel
theorem dX7_closes_31 : decode cX7_closes 31 = .ok (.bipush 8, 2) := by decide +kernel
theorem dX7_closes_33 : decode cX7_closes 33 = .ok (.aload_n 0, 1) := by decide +kernel
theorem dX7_closes_34 : decode cX7_closes 34 = .ok (.iload_n 1, 1) := by decide +kernel
theorem dX7_closes_35 : decode cX7_closes 35 = .ok (.bipush 9, 2) := by decide +kernel
theorem dX7_closes_37 : decode cX7_closes 37 = .ok (.invokevirtual 39, 3) := by decide +kernel
theorem dX7_closes_40 : decode cX7_closes 40 = .ok (.aload_n 0, 1) := by decide +kernel
theorem dX7_closes_41 : decode cX7_closes 41 = .ok (.getfield 7, 3) := by decide +kernel
theorem dX7_closes_44 : decode cX7_closes 44 = .ok (.iconst 1, 1) := by decide +kernel
theorem dX7_closes_45 : decode cX7_closes 45 = .ok (.iaload, 1) := by decide +kernel
theorem dX7_closes_46 : decode cX7_closes 46 = .ok (.if_icmp .lt 7, 3) := by decide +kernel
theorem dX7_closes_49 : decode cX7_closes 49 = .ok (.iconst 1, 1) := by decide +kernel
theorem dX7_closes_50 : decode cX7_closes 50 = .ok (.goto 10, 3) := by decide +kernel
theorem dX7_closes_53 : decode cX7_closes 53 = .ok (.aload_n 0, 1) := by decide +kernel
theorem dX7_closes_54 : decode cX7_closes 54 = .ok (.iload_n 1, 1) := by decide +kernel
theorem dX7_closes_55 : decode cX7_closes 55 = .ok (.bipush 8, 2) := by decide +kernel
theorem dX7_closes_57 : decode cX7_closes 57 = .ok (.invokevirtual 39, 3) := by decide +kernel
theorem dX7_closes_60 : decode cX7_closes 60 = .ok (.invokevirtual 51, 3) := by decide +kernel
theorem dX7_closes_63 : decode cX7_closes 63 = .ok (.aload_n 0, 1) := by decide +kernel
theorem dX7_closes_64 : decode cX7_closes 64 = .ok (.iload_n 1, 1) := by decide +kernel
theorem dX7_closes_65 : decode cX7_closes 65 = .ok (.bipush 15, 2) := by decide +kernel
theorem dX7_closes_67 : decode cX7_closes 67 = .ok (.invokevirtual 39, 3) := by decide +kernel
theorem dX7_closes_70 : decode cX7_closes 70 = .ok (.ldc 55, 2) := by decide +kernel
theorem dX7_closes_72 : decode cX7_closes 72 = .ok (.if_icmp .eq 31, 3) := by decide +kernel
theorem dX7_closes_75 : decode cX7_closes 75 = .ok (.aload_n 0, 1) := by decide +kernel
theorem dX7_closes_76 : decode cX7_closes 76 = .ok (.getfield 7, 3) := by decide +kernel
theorem dX7_closes_79 : decode cX7_closes 79 = .ok (.bipush 8, 2) := by decide +kernel
theorem dX7_closes_81 : decode cX7_closes 81 = .ok (.iaload, 1) := by decide +kernel
theorem dX7_closes_82 : decode cX7_closes 82 = .ok (.aload_n 0, 1) := by decide +kernel
theorem dX7_closes_83 : decode cX7_closes 83 = .ok (.iload_n 1, 1) := by decide +kernel
theorem dX7_closes_84 : decode cX7_closes 84 = .ok (.bipush 15, 2) := by decide +kernel
theorem dX7_closes_86 : decode cX7_closes 86 = .ok (.invokevirtual 39, 3) := by decide +kernel
theorem dX7_closes_89 : decode cX7_closes 89 = .ok (.isub, 1) := by decide +kernel
theorem dX7_closes_90 : decode cX7_closes 90 = .ok (.aload_n 0, 1) := by decide +kernel
theorem dX7_closes_91 : decode cX7_closes 91 = .ok (.getfield 7, 3) := by decide +kernel
theorem dX7_closes_94 : decode cX7_closes 94 = .ok (.iconst 3, 1) := by decide +kernel
theorem dX7_closes_95 : decode cX7_closes 95 = .ok (.iaload, 1) := by decide +kernel
theorem dX7_closes_96 : decode cX7_closes 96 = .ok (.if_icmp .ge 7, 3) := by decide +kernel
theorem dX7_closes_99 : decode cX7_closes 99 = .ok (.iconst 1, 1) := by decide +kernel
theorem dX7_closes_100 : decode cX7_closes 100 = .ok (.goto 4, 3) := by decide +kernel
theorem dX7_closes_103 : decode cX7_closes 103 = .ok (.iconst 0, 1) := by decide +kernel
theorem dX7_closes_104 : decode cX7_closes 104 = .ok (.istore_n 2, 1) := by decide +kernel
theorem dX7_closes_105 : decode cX7_closes 105 = .ok (.aload_n 0, 1) := by decide +kernel
theorem dX7_closes_106 : decode cX7_closes 106 = .ok (.iload_n 1, 1) := by decide +kernel
theorem dX7_closes_107 : decode cX7_closes 107 = .ok (.bipush 12, 2) := by decide +kernel
theorem dX7_closes_109 : decode cX7_closes 109 = .ok (.iload_n 2, 1) := by decide +kernel
theorem dX7_closes_110 : decode cX7_closes 110 = .ok (.ifCond .eq 12, 3) := by decide +kernel
theorem dX7_closes_113 : decode cX7_closes 113 = .ok (.aload_n 0, 1) := by decide +kernel
theorem dX7_closes_114 : decode cX7_closes 114 = .ok (.getfield 7, 3) := by decide +kernel
theorem dX7_closes_117 : decode cX7_closes 117 = .ok (.iconst 4, 1) := by decide +kernel
theorem dX7_closes_118 : decode cX7_closes 118 = .ok (.iaload, 1) := by decide +kernel
theorem dX7_closes_119 : decode cX7_closes 119 = .ok (.goto 4, 3) := by decide +kernel
theorem dX7_closes_122 : decode cX7_closes 122 = .ok (.iconst 0, 1) := by decide +kernel
theorem dX7_closes_123 : decode cX7_closes 123 = .ok (.invokevirtual 81, 3) := by decide +kernel
theorem dX7_closes_126 : decode cX7_closes 126 = .ok (.aload_n 0, 1) := by decide +kernel
theorem dX7_closes_127 : decode cX7_closes 127 = .ok (.iload_n 1, 1) := by decide +kernel
theorem dX7_closes_128 : decode cX7_closes 128 = .ok (.bipush 15, 2) := by decide +kernel
theorem dX7_closes_130 : decode cX7_closes 130 = .ok (.aload_n 0, 1) := by decide +kernel
theorem dX7_closes_131 : decode cX7_closes 131 = .ok (.getfield 7, 3) := by decide +kernel
theorem dX7_closes_134 : decode cX7_closes 134 = .ok (.bipush 8, 2) := by decide +kernel
theorem dX7_closes_136 : decode cX7_closes 136 = .ok (.iaload, 1) := by decide +kernel
theorem dX7_closes_137 : decode cX7_closes 137 = .ok (.invokevirtual 51, 3) := by decide +kernel
theorem dX7_closes_140 : decode cX7_closes 140 = .ok (.return_, 1) := by decide +kernel
theorem dX7_opens_0 : decode cX7_opens 0 = .ok (.aload_n 0, 1) := by decide +kernel
theorem dX7_opens_1 : decode cX7_opens 1 = .ok (.iload_n 1, 1) := by decide +kernel
theorem dX7_opens_2 : decode cX7_opens 2 = .ok (.bipush 8, 2) := by decide +kernel
theorem dX7_opens_4 : decode cX7_opens 4 = .ok (.invokevirtual 39, 3) := by decide +kernel
theorem dX7_opens_7 : decode cX7_opens 7 = .ok (.iconst 1, 1) := by decide +kernel
theorem dX7_opens_8 : decode cX7_opens 8 = .ok (.if_icmp .ne 61, 3) := by decide +kernel
theorem dX7_opens_11 : decode cX7_opens 11 = .ok (.aload_n 0, 1) := by decide +kernel
theorem dX7_opens_12 : decode cX7_opens 12 = .ok (.iload_n 1, 1) := by decide +kernel
theorem dX7_opens_13 : decode cX7_opens 13 = .ok (.bipush 10, 2) := by decide +kernel
theorem dX7_opens_15 : decode cX7_opens 15 = .ok (.iconst 1, 1) := by decide +kernel
theorem dX7_opens_16 : decode cX7_opens 16 = .ok (.invokevirtual 81, 3) := by decide +kernel
theorem dX7_opens_19 : decode cX7_opens 19 = .ok (.aload_n 0, 1) := by decide +kernel
theorem dX7_opens_20 : decode cX7_opens 20 = .ok (.iload_n 1, 1) := by decide +kernel
theorem dX7_opens_21 : decode cX7_opens 21 = .ok (.bipush 10, 2) := by decide +kernel
theorem dX7_opens_23 : decode cX7_opens 23 = .ok (.invokevirtual 39, 3) := by decide +kernel
theorem dX7_opens_26 : decode cX7_opens 26 = .ok (.aload_n 0, 1) := by decide +kernel
theorem dX7_opens_27 : decode cX7_opens 27 = .ok (.getfield 7, 3) := by decide +kernel
theorem dX7_opens_30 : decode cX7_opens 30 = .ok (.iconst 2, 1) := by decide +kernel
theorem dX7_opens_31 : decode cX7_opens 31 = .ok (.iaload, 1) := by decide +kernel
theorem dX7_opens_32 : decode cX7_opens 32 = .ok (.if_icmp .ge 5, 3) := by decide +kernel
theorem dX7_opens_35 : decode cX7_opens 35 = .ok (.iconst 0, 1) := by decide +kernel
theorem dX7_opens_36 : decode cX7_opens 36 = .ok (.ireturn, 1) := by decide +kernel
theorem dX7_opens_37 : decode cX7_opens 37 = .ok (.aload_n 0, 1) := by decide +kernel
theorem dX7_opens_38 : decode cX7_opens 38 = .ok (.iload_n 1, 1) := by decide +kernel
theorem dX7_opens_39 : decode cX7_opens 39 = .ok (.bipush 8, 2) := by decide +kernel
theorem dX7_opens_41 : decode cX7_opens 41 = .ok (.iconst 0, 1) := by decide +kernel
theorem dX7_opens_42 : decode cX7_opens 42 = .ok (.invokevirtual 51, 3) := by decide +kernel
theorem dX7_opens_45 : decode cX7_opens 45 = .ok (.aload_n 0, 1) := by decide +kernel
theorem dX7_opens_46 : decode cX7_opens 46 = .ok (.iload_n 1, 1) := by decide +kernel
theorem dX7_opens_47 : decode cX7_opens 47 = .ok (.bipush 10, 2) := by decide +kernel
theorem dX7_opens_49 : decode cX7_opens 49 = .ok (.iconst 0, 1) := by decide +kernel
theorem dX7_opens_50 : decode cX7_opens 50 = .ok (.invokevirtual 51, 3) := by decide +kernel
theorem dX7_opens_53 : decode cX7_opens 53 = .ok (.aload_n 0, 1) := by decide +kernel
theorem dX7_opens_54 : decode cX7_opens 54 = .ok (.iload_n 1, 1) := by decide +kernel
theorem dX7_opens_55 : decode cX7_opens 55 = .ok (.bipush 9, 2) := by decide +kernel
theorem dX7_opens_57 : decode cX7_opens 57 = .ok (.aload_n 0, 1) := by decide +kernel
theorem dX7_opens_58 : decode cX7_opens 58 = .ok (.iload_n 1, 1) := by decide +kernel
theorem dX7_opens_59 : decode cX7_opens 59 = .ok (.bipush 9, 2) := by decide +kernel
theorem dX7_opens_61 : decode cX7_opens 61 = .ok (.invokevirtual 39, 3) := by decide +kernel
theorem dX7_opens_64 : decode cX7_opens 64 = .ok (.iconst 2, 1) := by decide +kernel
theorem dX7_opens_65 : decode cX7_opens 65 = .ok (.idiv, 1) := by decide +kernel
theorem dX7_opens_66 : decode cX7_opens 66 = .ok (.invokevirtual 51, 3) := by decide +kernel
theorem dX7_opens_69 : decode cX7_opens 69 = .ok (.aload_n 0, 1) := by decide +kernel
theorem dX7_opens_70 : decode cX7_opens 70 = .ok (.iload_n 1, 1) := by decide +kernel
theorem dX7_opens_71 : decode cX7_opens 71 = .ok (.bipush 7, 2) := by decide +kernel
theorem dX7_opens_73 : decode cX7_opens 73 = .ok (.iconst 0, 1) := by decide +kernel
theorem dX7_opens_74 : decode cX7_opens 74 = .ok (.invokevirtual 51, 3) := by decide +kernel
theorem dX7_opens_77 : decode cX7_opens 77 = .ok (.iconst 1, 1) := by decide +kernel
theorem dX7_opens_78 : decode cX7_opens 78 = .ok (.ireturn, 1) := by decide +kernel
theorem dX7_turns_0 : decode cX7_turns 0 = .ok (.aload_n 0, 1) := by decide +kernel
theorem dX7_turns_1 : decode cX7_turns 1 = .ok (.iload_n 1, 1) := by decide +kernel
theorem dX7_turns_2 : decode cX7_turns 2 = .ok (.invokevirtual 84, 3) := by decide +kernel
theorem dX7_turns_5 : decode cX7_turns 5 = .ok (.istore_n 2, 1) := by decide +kernel
theorem dX7_turns_6 : decode cX7_turns 6 = .ok (.aload_n 0, 1) := by decide +kernel
theorem dX7_turns_7 : decode cX7_turns 7 = .ok (.iload_n 1, 1) := by decide +kernel
theorem dX7_turns_8 : decode cX7_turns 8 = .ok (.bipush 14, 2) := by decide +kernel
theorem dX7_turns_10 : decode cX7_turns 10 = .ok (.iload_n 2, 1) := by decide +kernel
theorem dX7_turns_11 : decode cX7_turns 11 = .ok (.aload_n 0, 1) := by decide +kernel
theorem dX7_turns_12 : decode cX7_turns 12 = .ok (.getfield 7, 3) := by decide +kernel
theorem dX7_turns_15 : decode cX7_turns 15 = .ok (.iconst 5, 1) := by decide +kernel
theorem dX7_turns_16 : decode cX7_turns 16 = .ok (.iaload, 1) := by decide +kernel
theorem dX7_turns_17 : decode cX7_turns 17 = .ok (.if_icmp .le 7, 3) := by decide +kernel
theorem dX7_turns_20 : decode cX7_turns 20 = .ok (.iconst 1, 1) := by decide +kernel
theorem dX7_turns_21 : decode cX7_turns 21 = .ok (.goto 10, 3) := by decide +kernel
theorem dX7_turns_24 : decode cX7_turns 24 = .ok (.aload_n 0, 1) := by decide +kernel
theorem dX7_turns_25 : decode cX7_turns 25 = .ok (.iload_n 1, 1) := by decide +kernel
theorem dX7_turns_26 : decode cX7_turns 26 = .ok (.bipush 14, 2) := by decide +kernel
theorem dX7_turns_28 : decode cX7_turns 28 = .ok (.invokevirtual 39, 3) := by decide +kernel
theorem dX7_turns_31 : decode cX7_turns 31 = .ok (.invokevirtual 51, 3) := by decide +kernel
theorem dX7_turns_34 : decode cX7_turns 34 = .ok (.aload_n 0, 1) := by decide +kernel
theorem dX7_turns_35 : decode cX7_turns 35 = .ok (.iload_n 1, 1) := by decide +kernel
theorem dX7_turns_36 : decode cX7_turns 36 = .ok (.bipush 6, 2) := by decide +kernel
theorem dX7_turns_38 : decode cX7_turns 38 = .ok (.iload_n 2, 1) := by decide +kernel
theorem dX7_turns_39 : decode cX7_turns 39 = .ok (.aload_n 0, 1) := by decide +kernel
theorem dX7_turns_40 : decode cX7_turns 40 = .ok (.iload_n 1, 1) := by decide +kernel
theorem dX7_turns_41 : decode cX7_turns 41 = .ok (.bipush 6, 2) := by decide +kernel
theorem dX7_turns_43 : decode cX7_turns 43 = .ok (.invokevirtual 39, 3) := by decide +kernel
theorem dX7_turns_46 : decode cX7_turns 46 = .ok (.isub, 1) := by decide +kernel
theorem dX7_turns_47 : decode cX7_turns 47 = .ok (.aload_n 0, 1) := by decide +kernel
theorem dX7_turns_48 : decode cX7_turns 48 = .ok (.getfield 7, 3) := by decide +kernel
theorem dX7_turns_51 : decode cX7_turns 51 = .ok (.iconst 0, 1) := by decide +kernel
theorem dX7_turns_52 : decode cX7_turns 52 = .ok (.iaload, 1) := by decide +kernel
theorem dX7_turns_53 : decode cX7_turns 53 = .ok (.imul, 1) := by decide +kernel
theorem dX7_turns_54 : decode cX7_turns 54 = .ok (.bipush 100, 2) := by decide +kernel
theorem dX7_turns_56 : decode cX7_turns 56 = .ok (.idiv, 1) := by decide +kernel
theorem dX7_turns_57 : decode cX7_turns 57 = .ok (.invokevirtual 81, 3) := by decide +kernel
theorem dX7_turns_60 : decode cX7_turns 60 = .ok (.aload_n 0, 1) := by decide +kernel
theorem dX7_turns_61 : decode cX7_turns 61 = .ok (.iload_n 1, 1) := by decide +kernel
theorem dX7_turns_62 : decode cX7_turns 62 = .ok (.bipush 6, 2) := by decide +kernel
theorem dX7_turns_64 : decode cX7_turns 64 = .ok (.invokevirtual 39, 3) := by decide +kernel
theorem dX7_turns_67 : decode cX7_turns 67 = .ok (.istore_n 3, 1) := by decide +kernel
theorem dX7_turns_68 : decode cX7_turns 68 = .ok (.iload_n 3, 1) := by decide +kernel
theorem dX7_turns_69 : decode cX7_turns 69 = .ok (.aload_n 0, 1) := by decide +kernel
theorem dX7_turns_70 : decode cX7_turns 70 = .ok (.iload_n 1, 1) := by decide +kernel
theorem dX7_turns_71 : decode cX7_turns 71 = .ok (.iconst 4, 1) := by decide +kernel
theorem dX7_turns_72 : decode cX7_turns 72 = .ok (.invokevirtual 39, 3) := by decide +kernel
theorem dX7_turns_75 : decode cX7_turns 75 = .ok (.aload_n 0, 1) := by decide +kernel
theorem dX7_turns_76 : decode cX7_turns 76 = .ok (.iload_n 1, 1) := by decide +kernel
theorem dX7_turns_77 : decode cX7_turns 77 = .ok (.iconst 5, 1) := by decide +kernel
theorem dX7_turns_78 : decode cX7_turns 78 = .ok (.invokevirtual 39, 3) := by decide +kernel
theorem dX7_turns_81 : decode cX7_turns 81 = .ok (.iadd, 1) := by decide +kernel
theorem dX7_turns_82 : decode cX7_turns 82 = .ok (.if_icmp .lt 7, 3) := by decide +kernel
theorem dX7_turns_85 : decode cX7_turns 85 = .ok (.iconst 1, 1) := by decide +kernel
theorem dX7_turns_86 : decode cX7_turns 86 = .ok (.goto 4, 3) := by decide +kernel
theorem dX7_turns_89 : decode cX7_turns 89 = .ok (.iconst 0, 1) := by decide +kernel
theorem dX7_turns_90 : decode cX7_turns 90 = .ok (.istore 4, 2) := by decide +kernel
theorem dX7_turns_92 : decode cX7_turns 92 = .ok (.iconst 0, 1) := by decide +kernel
theorem dX7_turns_93 : decode cX7_turns 93 = .ok (.istore 5, 2) := by decide +kernel
theorem dX7_turns_95 : decode cX7_turns 95 = .ok (.aload_n 0, 1) := by decide +kernel
theorem dX7_turns_96 : decode cX7_turns 96 = .ok (.iload_n 1, 1) := by decide +kernel
theorem dX7_turns_97 : decode cX7_turns 97 = .ok (.bipush 7, 2) := by decide +kernel
theorem dX7_turns_99 : decode cX7_turns 99 = .ok (.invokevirtual 39, 3) := by decide +kernel
theorem dX7_turns_102 : decode cX7_turns 102 = .ok (.ifCond .ne 31, 3) := by decide +kernel
theorem dX7_turns_105 : decode cX7_turns 105 = .ok (.iload_n 3, 1) := by decide +kernel
theorem dX7_turns_106 : decode cX7_turns 106 = .ok (.aload_n 0, 1) := by decide +kernel
theorem dX7_turns_107 : decode cX7_turns 107 = .ok (.iload_n 1, 1) := by decide +kernel
theorem dX7_turns_108 : decode cX7_turns 108 = .ok (.iconst 4, 1) := by decide +kernel
theorem dX7_turns_109 : decode cX7_turns 109 = .ok (.invokevirtual 39, 3) := by decide +kernel
theorem dX7_turns_112 : decode cX7_turns 112 = .ok (.aload_n 0, 1) := by decide +kernel
theorem dX7_turns_113 : decode cX7_turns 113 = .ok (.iload_n 1, 1) := by decide +kernel
theorem dX7_turns_114 : decode cX7_turns 114 = .ok (.iconst 5, 1) := by decide +kernel
theorem dX7_turns_115 : decode cX7_turns 115 = .ok (.invokevirtual 39, 3) := by decide +kernel
theorem dX7_turns_118 : decode cX7_turns 118 = .ok (.isub, 1) := by decide +kernel
theorem dX7_turns_119 : decode cX7_turns 119 = .ok (.if_icmp .gt 14, 3) := by decide +kernel
theorem dX7_turns_122 : decode cX7_turns 122 = .ok (.aload_n 0, 1) := by decide +kernel
theorem dX7_turns_123 : decode cX7_turns 123 = .ok (.iload_n 1, 1) := by decide +kernel
theorem dX7_turns_124 : decode cX7_turns 124 = .ok (.invokevirtual 118, 3) := by decide +kernel
theorem dX7_turns_127 : decode cX7_turns 127 = .ok (.iconst 1, 1) := by decide +kernel
theorem dX7_turns_128 : decode cX7_turns 128 = .ok (.istore 5, 2) := by decide +kernel
theorem dX7_turns_130 : decode cX7_turns 130 = .ok (.goto 26, 3) := by decide +kernel
theorem dX7_turns_133 : decode cX7_turns 133 = .ok (.aload_n 0, 1) := by decide +kernel
theorem dX7_turns_134 : decode cX7_turns 134 = .ok (.iload_n 1, 1) := by decide +kernel
theorem dX7_turns_135 : decode cX7_turns 135 = .ok (.bipush 7, 2) := by decide +kernel
theorem dX7_turns_137 : decode cX7_turns 137 = .ok (.invokevirtual 39, 3) := by decide +kernel
theorem dX7_turns_140 : decode cX7_turns 140 = .ok (.iconst 1, 1) := by decide +kernel
theorem dX7_turns_141 : decode cX7_turns 141 = .ok (.if_icmp .ne 15, 3) := by decide +kernel
theorem dX7_turns_144 : decode cX7_turns 144 = .ok (.iload 4, 2) := by decide +kernel
theorem dX7_turns_146 : decode cX7_turns 146 = .ok (.ifCond .eq 10, 3) := by decide +kernel
theorem dX7_turns_149 : decode cX7_turns 149 = .ok (.aload_n 0, 1) := by decide +kernel
theorem dX7_turns_150 : decode cX7_turns 150 = .ok (.iload_n 1, 1) := by decide +kernel
theorem dX7_turns_151 : decode cX7_turns 151 = .ok (.invokevirtual 122, 3) := by decide +kernel
theorem dX7_turns_154 : decode cX7_turns 154 = .ok (.istore 5, 2) := by decide +kernel
theorem dX7_turns_156 : decode cX7_turns 156 = .ok (.aload_n 0, 1) := by decide +kernel
theorem dX7_turns_157 : decode cX7_turns 157 = .ok (.iload_n 1, 1) := by decide +kernel
theorem dX7_turns_158 : decode cX7_turns 158 = .ok (.bipush 13, 2) := by decide +kernel
theorem dX7_turns_160 : decode cX7_turns 160 = .ok (.aload_n 0, 1) := by decide +kernel
theorem dX7_turns_161 : decode cX7_turns 161 = .ok (.iload_n 1, 1) := by decide +kernel
theorem dX7_turns_162 : decode cX7_turns 162 = .ok (.bipush 7, 2) := by decide +kernel
theorem dX7_turns_164 : decode cX7_turns 164 = .ok (.invokevirtual 39, 3) := by decide +kernel
theorem dX7_turns_167 : decode cX7_turns 167 = .ok (.iconst 1, 1) := by decide +kernel
theorem dX7_turns_168 : decode cX7_turns 168 = .ok (.if_icmp .ne 20, 3) := by decide +kernel
theorem dX7_turns_171 : decode cX7_turns 171 = .ok (.iload 4, 2) := by decide +kernel
theorem dX7_turns_173 : decode cX7_turns 173 = .ok (.ifCond .eq 15, 3) := by decide +kernel
theorem dX7_turns_176 : decode cX7_turns 176 = .ok (.aload_n 0, 1) := by decide +kernel
theorem dX7_turns_177 : decode cX7_turns 177 = .ok (.iload_n 1, 1) := by decide +kernel
theorem dX7_turns_178 : decode cX7_turns 178 = .ok (.bipush 13, 2) := by decide +kernel
theorem dX7_turns_180 : decode cX7_turns 180 = .ok (.invokevirtual 39, 3) := by decide +kernel
theorem dX7_turns_183 : decode cX7_turns 183 = .ok (.iconst 1, 1) := by decide +kernel
theorem dX7_turns_184 : decode cX7_turns 184 = .ok (.iadd, 1) := by decide +kernel
theorem dX7_turns_185 : decode cX7_turns 185 = .ok (.goto 4, 3) := by decide +kernel
theorem dX7_turns_188 : decode cX7_turns 188 = .ok (.iconst 0, 1) := by decide +kernel
theorem dX7_turns_189 : decode cX7_turns 189 = .ok (.invokevirtual 51, 3) := by decide +kernel
theorem dX7_turns_192 : decode cX7_turns 192 = .ok (.iload 5, 2) := by decide +kernel
theorem dX7_turns_194 : decode cX7_turns 194 = .ok (.ireturn, 1) := by decide +kernel
theorem dX7_minute_0 : decode cX7_minute 0 = .ok (.aload_n 0, 1) := by decide +kernel
theorem dX7_minute_1 : decode cX7_minute 1 = .ok (.aload_n 0, 1) := by decide +kernel
theorem dX7_minute_2 : decode cX7_minute 2 = .ok (.getfield 7, 3) := by decide +kernel
theorem dX7_minute_5 : decode cX7_minute 5 = .ok (.bipush 8, 2) := by decide +kernel
theorem dX7_minute_7 : decode cX7_minute 7 = .ok (.iaload, 1) := by decide +kernel
theorem dX7_minute_8 : decode cX7_minute 8 = .ok (.invokevirtual 115, 3) := by decide +kernel
theorem dX7_minute_11 : decode cX7_minute 11 = .ok (.istore_n 1, 1) := by decide +kernel
theorem dX7_minute_12 : decode cX7_minute 12 = .ok (.iconst 0, 1) := by decide +kernel
theorem dX7_minute_13 : decode cX7_minute 13 = .ok (.istore_n 2, 1) := by decide +kernel
theorem dX7_minute_14 : decode cX7_minute 14 = .ok (.iload_n 2, 1) := by decide +kernel
theorem dX7_minute_15 : decode cX7_minute 15 = .ok (.aload_n 0, 1) := by decide +kernel
theorem dX7_minute_16 : decode cX7_minute 16 = .ok (.getfield 7, 3) := by decide +kernel
theorem dX7_minute_19 : decode cX7_minute 19 = .ok (.bipush 7, 2) := by decide +kernel
theorem dX7_minute_21 : decode cX7_minute 21 = .ok (.iaload, 1) := by decide +kernel
theorem dX7_minute_22 : decode cX7_minute 22 = .ok (.if_icmp .ge 20, 3) := by decide +kernel
theorem dX7_minute_25 : decode cX7_minute 25 = .ok (.aload_n 0, 1) := by decide +kernel
theorem dX7_minute_26 : decode cX7_minute 26 = .ok (.getfield 26, 3) := by decide +kernel
theorem dX7_minute_29 : decode cX7_minute 29 = .ok (.iload_n 2, 1) := by decide +kernel
theorem dX7_minute_30 : decode cX7_minute 30 = .ok (.aload_n 0, 1) := by decide +kernel
theorem dX7_minute_31 : decode cX7_minute 31 = .ok (.iload_n 2, 1) := by decide +kernel
theorem dX7_minute_32 : decode cX7_minute 32 = .ok (.invokevirtual 84, 3) := by decide +kernel
theorem dX7_minute_35 : decode cX7_minute 35 = .ok (.iastore, 1) := by decide +kernel
theorem dX7_minute_36 : decode cX7_minute 36 = .ok (.iinc 2 1, 3) := by decide +kernel
theorem dX7_minute_39 : decode cX7_minute 39 = .ok (.goto (-25), 3) := by decide +kernel
theorem dX7_minute_42 : decode cX7_minute 42 = .ok (.iconst 0, 1) := by decide +kernel
theorem dX7_minute_43 : decode cX7_minute 43 = .ok (.istore_n 2, 1) := by decide +kernel
theorem dX7_minute_44 : decode cX7_minute 44 = .ok (.iload_n 2, 1) := by decide +kernel
theorem dX7_minute_45 : decode cX7_minute 45 = .ok (.aload_n 0, 1) := by decide +kernel
theorem dX7_minute_46 : decode cX7_minute 46 = .ok (.getfield 7, 3) := by decide +kernel
theorem dX7_minute_49 : decode cX7_minute 49 = .ok (.bipush 7, 2) := by decide +kernel
theorem dX7_minute_51 : decode cX7_minute 51 = .ok (.iaload, 1) := by decide +kernel
theorem dX7_minute_52 : decode cX7_minute 52 = .ok (.if_icmp .ge 15, 3) := by decide +kernel
theorem dX7_minute_55 : decode cX7_minute 55 = .ok (.aload_n 0, 1) := by decide +kernel
theorem dX7_minute_56 : decode cX7_minute 56 = .ok (.iload_n 2, 1) := by decide +kernel
theorem dX7_minute_57 : decode cX7_minute 57 = .ok (.iload_n 1, 1) := by decide +kernel
theorem dX7_minute_58 : decode cX7_minute 58 = .ok (.invokevirtual 125, 3) := by decide +kernel
theorem dX7_minute_61 : decode cX7_minute 61 = .ok (.iinc 2 1, 3) := by decide +kernel
theorem dX7_minute_64 : decode cX7_minute 64 = .ok (.goto (-20), 3) := by decide +kernel
theorem dX7_minute_67 : decode cX7_minute 67 = .ok (.iconst 0, 1) := by decide +kernel
theorem dX7_minute_68 : decode cX7_minute 68 = .ok (.istore_n 2, 1) := by decide +kernel
theorem dX7_minute_69 : decode cX7_minute 69 = .ok (.iconst 0, 1) := by decide +kernel
theorem dX7_minute_70 : decode cX7_minute 70 = .ok (.istore_n 3, 1) := by decide +kernel
theorem dX7_minute_71 : decode cX7_minute 71 = .ok (.iload_n 3, 1) := by decide +kernel
theorem dX7_minute_72 : decode cX7_minute 72 = .ok (.aload_n 0, 1) := by decide +kernel
theorem dX7_minute_73 : decode cX7_minute 73 = .ok (.getfield 7, 3) := by decide +kernel
theorem dX7_minute_76 : decode cX7_minute 76 = .ok (.bipush 7, 2) := by decide +kernel
theorem dX7_minute_78 : decode cX7_minute 78 = .ok (.iaload, 1) := by decide +kernel
theorem dX7_minute_79 : decode cX7_minute 79 = .ok (.if_icmp .ge 17, 3) := by decide +kernel
theorem dX7_minute_82 : decode cX7_minute 82 = .ok (.iload_n 2, 1) := by decide +kernel
theorem dX7_minute_83 : decode cX7_minute 83 = .ok (.aload_n 0, 1) := by decide +kernel
theorem dX7_minute_84 : decode cX7_minute 84 = .ok (.iload_n 3, 1) := by decide +kernel
theorem dX7_minute_85 : decode cX7_minute 85 = .ok (.invokevirtual 129, 3) := by decide +kernel
theorem dX7_minute_88 : decode cX7_minute 88 = .ok (.iadd, 1) := by decide +kernel
theorem dX7_minute_89 : decode cX7_minute 89 = .ok (.istore_n 2, 1) := by decide +kernel
theorem dX7_minute_90 : decode cX7_minute 90 = .ok (.iinc 3 1, 3) := by decide +kernel
theorem dX7_minute_93 : decode cX7_minute 93 = .ok (.goto (-22), 3) := by decide +kernel
theorem dX7_minute_96 : decode cX7_minute 96 = .ok (.aload_n 0, 1) := by decide +kernel
theorem dX7_minute_97 : decode cX7_minute 97 = .ok (.getfield 7, 3) := by decide +kernel
theorem dX7_minute_100 : decode cX7_minute 100 = .ok (.bipush 8, 2) := by decide +kernel
theorem dX7_minute_102 : decode cX7_minute 102 = .ok (.dup2, 1) := by decide +kernel
theorem dX7_minute_103 : decode cX7_minute 103 = .ok (.iaload, 1) := by decide +kernel
theorem dX7_minute_104 : decode cX7_minute 104 = .ok (.iconst 1, 1) := by decide +kernel
theorem dX7_minute_105 : decode cX7_minute 105 = .ok (.iadd, 1) := by decide +kernel
theorem dX7_minute_106 : decode cX7_minute 106 = .ok (.iastore, 1) := by decide +kernel
theorem dX7_minute_107 : decode cX7_minute 107 = .ok (.iload_n 2, 1) := by decide +kernel
theorem dX7_minute_108 : decode cX7_minute 108 = .ok (.ireturn, 1) := by decide +kernel
theorem dX7_minutes_0 : decode cX7_minutes 0 = .ok (.iconst 0, 1) := by decide +kernel
theorem dX7_minutes_1 : decode cX7_minutes 1 = .ok (.istore_n 2, 1) := by decide +kernel
theorem dX7_minutes_2 : decode cX7_minutes 2 = .ok (.iconst 0, 1) := by decide +kernel
theorem dX7_minutes_3 : decode cX7_minutes 3 = .ok (.istore_n 3, 1) := by decide +kernel
theorem dX7_minutes_4 : decode cX7_minutes 4 = .ok (.iload_n 3, 1) := by decide +kernel
theorem dX7_minutes_5 : decode cX7_minutes 5 = .ok (.iload_n 1, 1) := by decide +kernel
theorem dX7_minutes_6 : decode cX7_minutes 6 = .ok (.if_icmp .ge 16, 3) := by decide +kernel
theorem dX7_minutes_9 : decode cX7_minutes 9 = .ok (.iload_n 2, 1) := by decide +kernel
theorem dX7_minutes_10 : decode cX7_minutes 10 = .ok (.aload_n 0, 1) := by decide +kernel
theorem dX7_minutes_11 : decode cX7_minutes 11 = .ok (.invokevirtual 132, 3) := by decide +kernel
theorem dX7_minutes_14 : decode cX7_minutes 14 = .ok (.iadd, 1) := by decide +kernel
theorem dX7_minutes_15 : decode cX7_minutes 15 = .ok (.istore_n 2, 1) := by decide +kernel
theorem dX7_minutes_16 : decode cX7_minutes 16 = .ok (.iinc 3 1, 3) := by decide +kernel
theorem dX7_minutes_19 : decode cX7_minutes 19 = .ok (.goto (-15), 3) := by decide +kernel
theorem dX7_minutes_22 : decode cX7_minutes 22 = .ok (.iload_n 2, 1) := by decide +kernel
theorem dX7_minutes_23 : decode cX7_minutes 23 = .ok (.ireturn, 1) := by decide +kernel
theorem dX7_pass_0 : decode cX7_pass 0 = .ok (.iload_n 1, 1) := by decide +kernel
theorem dX7_pass_1 : decode cX7_pass 1 = .ok (.iconst 1, 1) := by decide +kernel
theorem dX7_pass_2 : decode cX7_pass 2 = .ok (.sipush 500, 3) := by decide +kernel
theorem dX7_pass_5 : decode cX7_pass 5 = .ok (.invokestatic 35, 3) := by decide +kernel
theorem dX7_pass_8 : decode cX7_pass 8 = .ok (.ifCond .ne 6, 3) := by decide +kernel
theorem dX7_pass_11 : decode cX7_pass 11 = .ok (.ldc 46, 2) := by decide +kernel
theorem dX7_pass_13 : decode cX7_pass 13 = .ok (.ireturn, 1) := by decide +kernel
theorem dX7_pass_14 : decode cX7_pass 14 = .ok (.aload_n 0, 1) := by decide +kernel
theorem dX7_pass_15 : decode cX7_pass 15 = .ok (.getfield 7, 3) := by decide +kernel
theorem dX7_pass_18 : decode cX7_pass 18 = .ok (.bipush 7, 2) := by decide +kernel
theorem dX7_pass_20 : decode cX7_pass 20 = .ok (.iaload, 1) := by decide +kernel
theorem dX7_pass_21 : decode cX7_pass 21 = .ok (.ifCond .ne 6, 3) := by decide +kernel
theorem dX7_pass_24 : decode cX7_pass 24 = .ok (.ldc 34, 2) := by decide +kernel
theorem dX7_pass_26 : decode cX7_pass 26 = .ok (.ireturn, 1) := by decide +kernel
theorem dX7_pass_27 : decode cX7_pass 27 = .ok (.aload_n 0, 1) := by decide +kernel
theorem dX7_pass_28 : decode cX7_pass 28 = .ok (.getfield 7, 3) := by decide +kernel
theorem dX7_pass_31 : decode cX7_pass 31 = .ok (.bipush 8, 2) := by decide +kernel
theorem dX7_pass_33 : decode cX7_pass 33 = .ok (.iaload, 1) := by decide +kernel
theorem dX7_pass_34 : decode cX7_pass 34 = .ok (.iload_n 1, 1) := by decide +kernel
theorem dX7_pass_35 : decode cX7_pass 35 = .ok (.iadd, 1) := by decide +kernel
theorem dX7_pass_36 : decode cX7_pass 36 = .ok (.sipush 20000, 3) := by decide +kernel
theorem dX7_pass_39 : decode cX7_pass 39 = .ok (.if_icmp .le 6, 3) := by decide +kernel
theorem dX7_pass_42 : decode cX7_pass 42 = .ok (.ldc 47, 2) := by decide +kernel
theorem dX7_pass_44 : decode cX7_pass 44 = .ok (.ireturn, 1) := by decide +kernel
theorem dX7_pass_45 : decode cX7_pass 45 = .ok (.aload_n 0, 1) := by decide +kernel
theorem dX7_pass_46 : decode cX7_pass 46 = .ok (.invokevirtual 48, 3) := by decide +kernel
theorem dX7_pass_49 : decode cX7_pass 49 = .ok (.aload_n 0, 1) := by decide +kernel
theorem dX7_pass_50 : decode cX7_pass 50 = .ok (.iload_n 1, 1) := by decide +kernel
theorem dX7_pass_51 : decode cX7_pass 51 = .ok (.invokevirtual 135, 3) := by decide +kernel
theorem dX7_pass_54 : decode cX7_pass 54 = .ok (.ireturn, 1) := by decide +kernel
theorem dX7_keeps_0 : decode cX7_keeps 0 = .ok (.iconst 0, 1) := by decide +kernel
theorem dX7_keeps_1 : decode cX7_keeps 1 = .ok (.istore_n 1, 1) := by decide +kernel
theorem dX7_keeps_2 : decode cX7_keeps 2 = .ok (.iload_n 1, 1) := by decide +kernel
theorem dX7_keeps_3 : decode cX7_keeps 3 = .ok (.sipush 196, 3) := by decide +kernel
theorem dX7_keeps_6 : decode cX7_keeps 6 = .ok (.if_icmp .ge 21, 3) := by decide +kernel
theorem dX7_keeps_9 : decode cX7_keeps 9 = .ok (.aload_n 0, 1) := by decide +kernel
theorem dX7_keeps_10 : decode cX7_keeps 10 = .ok (.getfield 20, 3) := by decide +kernel
theorem dX7_keeps_13 : decode cX7_keeps 13 = .ok (.iload_n 1, 1) := by decide +kernel
theorem dX7_keeps_14 : decode cX7_keeps 14 = .ok (.aload_n 0, 1) := by decide +kernel
theorem dX7_keeps_15 : decode cX7_keeps 15 = .ok (.getfield 7, 3) := by decide +kernel
theorem dX7_keeps_18 : decode cX7_keeps 18 = .ok (.iload_n 1, 1) := by decide +kernel
theorem dX7_keeps_19 : decode cX7_keeps 19 = .ok (.iaload, 1) := by decide +kernel
theorem dX7_keeps_20 : decode cX7_keeps 20 = .ok (.iastore, 1) := by decide +kernel
theorem dX7_keeps_21 : decode cX7_keeps 21 = .ok (.iinc 1 1, 3) := by decide +kernel
theorem dX7_keeps_24 : decode cX7_keeps 24 = .ok (.goto (-22), 3) := by decide +kernel
theorem dX7_keeps_27 : decode cX7_keeps 27 = .ok (.return_, 1) := by decide +kernel
theorem dX7_restores_0 : decode cX7_restores 0 = .ok (.iconst 0, 1) := by decide +kernel
theorem dX7_restores_1 : decode cX7_restores 1 = .ok (.istore_n 1, 1) := by decide +kernel
theorem dX7_restores_2 : decode cX7_restores 2 = .ok (.iload_n 1, 1) := by decide +kernel
theorem dX7_restores_3 : decode cX7_restores 3 = .ok (.sipush 196, 3) := by decide +kernel
theorem dX7_restores_6 : decode cX7_restores 6 = .ok (.if_icmp .ge 21, 3) := by decide +kernel
theorem dX7_restores_9 : decode cX7_restores 9 = .ok (.aload_n 0, 1) := by decide +kernel
theorem dX7_restores_10 : decode cX7_restores 10 = .ok (.getfield 7, 3) := by decide +kernel
theorem dX7_restores_13 : decode cX7_restores 13 = .ok (.iload_n 1, 1) := by decide +kernel
theorem dX7_restores_14 : decode cX7_restores 14 = .ok (.aload_n 0, 1) := by decide +kernel
theorem dX7_restores_15 : decode cX7_restores 15 = .ok (.getfield 20, 3) := by decide +kernel
theorem dX7_restores_18 : decode cX7_restores 18 = .ok (.iload_n 1, 1) := by decide +kernel
theorem dX7_restores_19 : decode cX7_restores 19 = .ok (.iaload, 1) := by decide +kernel
theorem dX7_restores_20 : decode cX7_restores 20 = .ok (.iastore, 1) := by decide +kernel
theorem dX7_restores_21 : decode cX7_restores 21 = .ok (.iinc 1 1, 3) := by decide +kernel
theorem dX7_restores_24 : decode cX7_restores 24 = .ok (.goto (-22), 3) := by decide +kernel
theorem dX7_restores_27 : decode cX7_restores 27 = .ok (.return_, 1) := by decide +kernel
theorem dX7_minutesToSuspect_0 : decode cX7_minutesToSuspect 0 = .ok (.aload_n 0, 1) := by decide +kernel
theorem dX7_minutesToSuspect_1 : decode cX7_minutesToSuspect 1 = .ok (.iload_n 1, 1) := by decide +kernel
theorem dX7_minutesToSuspect_2 : decode cX7_minutesToSuspect 2 = .ok (.invokevirtual 56, 3) := by decide +kernel
theorem dX7_minutesToSuspect_5 : decode cX7_minutesToSuspect 5 = .ok (.ifCond .ne 6, 3) := by decide +kernel
theorem dX7_minutesToSuspect_8 : decode cX7_minutesToSuspect 8 = .ok (.ldc 46, 2) := by decide +kernel
theorem dX7_minutesToSuspect_10 : decode cX7_minutesToSuspect 10 = .ok (.ireturn, 1) := by decide +kernel
theorem dX7_minutesToSuspect_11 : decode cX7_minutesToSuspect 11 = .ok (.aload_n 0, 1) := by decide +kernel
theorem dX7_minutesToSuspect_12 : decode cX7_minutesToSuspect 12 = .ok (.invokevirtual 138, 3) := by decide +kernel
theorem dX7_minutesToSuspect_15 : decode cX7_minutesToSuspect 15 = .ok (.iconst 0, 1) := by decide +kernel
theorem dX7_minutesToSuspect_16 : decode cX7_minutesToSuspect 16 = .ok (.istore_n 2, 1) := by decide +kernel
theorem dX7_minutesToSuspect_17 : decode cX7_minutesToSuspect 17 = .ok (.iconst 0, 1) := by decide +kernel
theorem dX7_minutesToSuspect_18 : decode cX7_minutesToSuspect 18 = .ok (.istore_n 3, 1) := by decide +kernel
theorem dX7_minutesToSuspect_19 : decode cX7_minutesToSuspect 19 = .ok (.iload_n 2, 1) := by decide +kernel
theorem dX7_minutesToSuspect_20 : decode cX7_minutesToSuspect 20 = .ok (.sipush 1000, 3) := by decide +kernel
theorem dX7_minutesToSuspect_23 : decode cX7_minutesToSuspect 23 = .ok (.if_icmp .ge 24, 3) := by decide +kernel
theorem dX7_minutesToSuspect_26 : decode cX7_minutesToSuspect 26 = .ok (.aload_n 0, 1) := by decide +kernel
theorem dX7_minutesToSuspect_27 : decode cX7_minutesToSuspect 27 = .ok (.iload_n 1, 1) := by decide +kernel
theorem dX7_minutesToSuspect_28 : decode cX7_minutesToSuspect 28 = .ok (.invokevirtual 87, 3) := by decide +kernel
theorem dX7_minutesToSuspect_31 : decode cX7_minutesToSuspect 31 = .ok (.ifCond .ne 16, 3) := by decide +kernel
theorem dX7_minutesToSuspect_34 : decode cX7_minutesToSuspect 34 = .ok (.iload_n 3, 1) := by decide +kernel
theorem dX7_minutesToSuspect_35 : decode cX7_minutesToSuspect 35 = .ok (.aload_n 0, 1) := by decide +kernel
theorem dX7_minutesToSuspect_36 : decode cX7_minutesToSuspect 36 = .ok (.invokevirtual 132, 3) := by decide +kernel
theorem dX7_minutesToSuspect_39 : decode cX7_minutesToSuspect 39 = .ok (.iadd, 1) := by decide +kernel
theorem dX7_minutesToSuspect_40 : decode cX7_minutesToSuspect 40 = .ok (.istore_n 3, 1) := by decide +kernel
theorem dX7_minutesToSuspect_41 : decode cX7_minutesToSuspect 41 = .ok (.iinc 2 1, 3) := by decide +kernel
theorem dX7_minutesToSuspect_44 : decode cX7_minutesToSuspect 44 = .ok (.goto (-25), 3) := by decide +kernel
theorem dX7_minutesToSuspect_47 : decode cX7_minutesToSuspect 47 = .ok (.aload_n 0, 1) := by decide +kernel
theorem dX7_minutesToSuspect_48 : decode cX7_minutesToSuspect 48 = .ok (.iload_n 1, 1) := by decide +kernel
theorem dX7_minutesToSuspect_49 : decode cX7_minutesToSuspect 49 = .ok (.invokevirtual 87, 3) := by decide +kernel
theorem dX7_minutesToSuspect_52 : decode cX7_minutesToSuspect 52 = .ok (.ifCond .eq 11, 3) := by decide +kernel
theorem dX7_minutesToSuspect_55 : decode cX7_minutesToSuspect 55 = .ok (.iload_n 3, 1) := by decide +kernel
theorem dX7_minutesToSuspect_56 : decode cX7_minutesToSuspect 56 = .ok (.ifCond .lt 7, 3) := by decide +kernel
theorem dX7_minutesToSuspect_59 : decode cX7_minutesToSuspect 59 = .ok (.iconst 1, 1) := by decide +kernel
theorem dX7_minutesToSuspect_60 : decode cX7_minutesToSuspect 60 = .ok (.goto 4, 3) := by decide +kernel
theorem dX7_minutesToSuspect_63 : decode cX7_minutesToSuspect 63 = .ok (.iconst 0, 1) := by decide +kernel
theorem dX7_minutesToSuspect_64 : decode cX7_minutesToSuspect 64 = .ok (.istore 4, 2) := by decide +kernel
theorem dX7_minutesToSuspect_66 : decode cX7_minutesToSuspect 66 = .ok (.aload_n 0, 1) := by decide +kernel
theorem dX7_minutesToSuspect_67 : decode cX7_minutesToSuspect 67 = .ok (.invokevirtual 141, 3) := by decide +kernel
theorem dX7_minutesToSuspect_70 : decode cX7_minutesToSuspect 70 = .ok (.iload 4, 2) := by decide +kernel
theorem dX7_minutesToSuspect_72 : decode cX7_minutesToSuspect 72 = .ok (.ifCond .eq 7, 3) := by decide +kernel
theorem dX7_minutesToSuspect_75 : decode cX7_minutesToSuspect 75 = .ok (.iload_n 2, 1) := by decide +kernel
theorem dX7_minutesToSuspect_76 : decode cX7_minutesToSuspect 76 = .ok (.goto 5, 3) := by decide +kernel
theorem dX7_minutesToSuspect_79 : decode cX7_minutesToSuspect 79 = .ok (.ldc 55, 2) := by decide +kernel
theorem dX7_minutesToSuspect_81 : decode cX7_minutesToSuspect 81 = .ok (.ireturn, 1) := by decide +kernel
theorem dX7_heated_0 : decode cX7_heated 0 = .ok (.iconst 0, 1) := by decide +kernel
theorem dX7_heated_1 : decode cX7_heated 1 = .ok (.istore_n 1, 1) := by decide +kernel
theorem dX7_heated_2 : decode cX7_heated 2 = .ok (.iconst 0, 1) := by decide +kernel
theorem dX7_heated_3 : decode cX7_heated 3 = .ok (.istore_n 2, 1) := by decide +kernel
theorem dX7_heated_4 : decode cX7_heated 4 = .ok (.iload_n 2, 1) := by decide +kernel
theorem dX7_heated_5 : decode cX7_heated 5 = .ok (.aload_n 0, 1) := by decide +kernel
theorem dX7_heated_6 : decode cX7_heated 6 = .ok (.getfield 7, 3) := by decide +kernel
theorem dX7_heated_9 : decode cX7_heated 9 = .ok (.bipush 7, 2) := by decide +kernel
theorem dX7_heated_11 : decode cX7_heated 11 = .ok (.iaload, 1) := by decide +kernel
theorem dX7_heated_12 : decode cX7_heated 12 = .ok (.if_icmp .ge 19, 3) := by decide +kernel
theorem dX7_heated_15 : decode cX7_heated 15 = .ok (.iload_n 1, 1) := by decide +kernel
theorem dX7_heated_16 : decode cX7_heated 16 = .ok (.aload_n 0, 1) := by decide +kernel
theorem dX7_heated_17 : decode cX7_heated 17 = .ok (.iload_n 2, 1) := by decide +kernel
theorem dX7_heated_18 : decode cX7_heated 18 = .ok (.bipush 17, 2) := by decide +kernel
theorem dX7_heated_20 : decode cX7_heated 20 = .ok (.invokevirtual 39, 3) := by decide +kernel
theorem dX7_heated_23 : decode cX7_heated 23 = .ok (.iadd, 1) := by decide +kernel
theorem dX7_heated_24 : decode cX7_heated 24 = .ok (.istore_n 1, 1) := by decide +kernel
theorem dX7_heated_25 : decode cX7_heated 25 = .ok (.iinc 2 1, 3) := by decide +kernel
theorem dX7_heated_28 : decode cX7_heated 28 = .ok (.goto (-24), 3) := by decide +kernel
theorem dX7_heated_31 : decode cX7_heated 31 = .ok (.iload_n 1, 1) := by decide +kernel
theorem dX7_heated_32 : decode cX7_heated 32 = .ok (.ireturn, 1) := by decide +kernel
theorem dX7_heatIn_0 : decode cX7_heatIn 0 = .ok (.iload_n 1, 1) := by decide +kernel
theorem dX7_heatIn_1 : decode cX7_heatIn 1 = .ok (.iconst 1, 1) := by decide +kernel
theorem dX7_heatIn_2 : decode cX7_heatIn 2 = .ok (.sipush 1000, 3) := by decide +kernel
theorem dX7_heatIn_5 : decode cX7_heatIn 5 = .ok (.invokestatic 35, 3) := by decide +kernel
theorem dX7_heatIn_8 : decode cX7_heatIn 8 = .ok (.ifCond .ne 6, 3) := by decide +kernel
theorem dX7_heatIn_11 : decode cX7_heatIn 11 = .ok (.ldc 46, 2) := by decide +kernel
theorem dX7_heatIn_13 : decode cX7_heatIn 13 = .ok (.ireturn, 1) := by decide +kernel
theorem dX7_heatIn_14 : decode cX7_heatIn 14 = .ok (.aload_n 0, 1) := by decide +kernel
theorem dX7_heatIn_15 : decode cX7_heatIn 15 = .ok (.invokevirtual 138, 3) := by decide +kernel
theorem dX7_heatIn_18 : decode cX7_heatIn 18 = .ok (.aload_n 0, 1) := by decide +kernel
theorem dX7_heatIn_19 : decode cX7_heatIn 19 = .ok (.invokevirtual 144, 3) := by decide +kernel
theorem dX7_heatIn_22 : decode cX7_heatIn 22 = .ok (.istore_n 2, 1) := by decide +kernel
theorem dX7_heatIn_23 : decode cX7_heatIn 23 = .ok (.aload_n 0, 1) := by decide +kernel
theorem dX7_heatIn_24 : decode cX7_heatIn 24 = .ok (.iload_n 1, 1) := by decide +kernel
theorem dX7_heatIn_25 : decode cX7_heatIn 25 = .ok (.invokevirtual 135, 3) := by decide +kernel
theorem dX7_heatIn_28 : decode cX7_heatIn 28 = .ok (.istore_n 3, 1) := by decide +kernel
theorem dX7_heatIn_29 : decode cX7_heatIn 29 = .ok (.iload_n 3, 1) := by decide +kernel
theorem dX7_heatIn_30 : decode cX7_heatIn 30 = .ok (.ifCond .ge 7, 3) := by decide +kernel
theorem dX7_heatIn_33 : decode cX7_heatIn 33 = .ok (.iload_n 2, 1) := by decide +kernel
theorem dX7_heatIn_34 : decode cX7_heatIn 34 = .ok (.goto 7, 3) := by decide +kernel
theorem dX7_heatIn_37 : decode cX7_heatIn 37 = .ok (.aload_n 0, 1) := by decide +kernel
theorem dX7_heatIn_38 : decode cX7_heatIn 38 = .ok (.invokevirtual 144, 3) := by decide +kernel
theorem dX7_heatIn_41 : decode cX7_heatIn 41 = .ok (.istore 4, 2) := by decide +kernel
theorem dX7_heatIn_43 : decode cX7_heatIn 43 = .ok (.aload_n 0, 1) := by decide +kernel
theorem dX7_heatIn_44 : decode cX7_heatIn 44 = .ok (.invokevirtual 141, 3) := by decide +kernel
theorem dX7_heatIn_47 : decode cX7_heatIn 47 = .ok (.iload 4, 2) := by decide +kernel
theorem dX7_heatIn_49 : decode cX7_heatIn 49 = .ok (.iload_n 2, 1) := by decide +kernel
theorem dX7_heatIn_50 : decode cX7_heatIn 50 = .ok (.isub, 1) := by decide +kernel
theorem dX7_heatIn_51 : decode cX7_heatIn 51 = .ok (.ireturn, 1) := by decide +kernel
theorem dX7_fined_0 : decode cX7_fined 0 = .ok (.aload_n 0, 1) := by decide +kernel
theorem dX7_fined_1 : decode cX7_fined 1 = .ok (.invokevirtual 138, 3) := by decide +kernel
theorem dX7_fined_4 : decode cX7_fined 4 = .ok (.aload_n 0, 1) := by decide +kernel
theorem dX7_fined_5 : decode cX7_fined 5 = .ok (.iload_n 1, 1) := by decide +kernel
theorem dX7_fined_6 : decode cX7_fined 6 = .ok (.bipush 12, 2) := by decide +kernel
theorem dX7_fined_8 : decode cX7_fined 8 = .ok (.invokevirtual 39, 3) := by decide +kernel
theorem dX7_fined_11 : decode cX7_fined 11 = .ok (.istore 4, 2) := by decide +kernel
theorem dX7_fined_13 : decode cX7_fined 13 = .ok (.aload_n 0, 1) := by decide +kernel
theorem dX7_fined_14 : decode cX7_fined 14 = .ok (.iload_n 1, 1) := by decide +kernel
theorem dX7_fined_15 : decode cX7_fined 15 = .ok (.iconst 5, 1) := by decide +kernel
theorem dX7_fined_16 : decode cX7_fined 16 = .ok (.iload_n 2, 1) := by decide +kernel
theorem dX7_fined_17 : decode cX7_fined 17 = .ok (.invokevirtual 51, 3) := by decide +kernel
theorem dX7_fined_20 : decode cX7_fined 20 = .ok (.aload_n 0, 1) := by decide +kernel
theorem dX7_fined_21 : decode cX7_fined 21 = .ok (.iload_n 3, 1) := by decide +kernel
theorem dX7_fined_22 : decode cX7_fined 22 = .ok (.invokevirtual 135, 3) := by decide +kernel
theorem dX7_fined_25 : decode cX7_fined 25 = .ok (.istore 5, 2) := by decide +kernel
theorem dX7_fined_27 : decode cX7_fined 27 = .ok (.iload 5, 2) := by decide +kernel
theorem dX7_fined_29 : decode cX7_fined 29 = .ok (.ifCond .ge 8, 3) := by decide +kernel
theorem dX7_fined_32 : decode cX7_fined 32 = .ok (.iload 4, 2) := by decide +kernel
theorem dX7_fined_34 : decode cX7_fined 34 = .ok (.goto 10, 3) := by decide +kernel
theorem dX7_fined_37 : decode cX7_fined 37 = .ok (.aload_n 0, 1) := by decide +kernel
theorem dX7_fined_38 : decode cX7_fined 38 = .ok (.iload_n 1, 1) := by decide +kernel
theorem dX7_fined_39 : decode cX7_fined 39 = .ok (.bipush 12, 2) := by decide +kernel
theorem dX7_fined_41 : decode cX7_fined 41 = .ok (.invokevirtual 39, 3) := by decide +kernel
theorem dX7_fined_44 : decode cX7_fined 44 = .ok (.istore 6, 2) := by decide +kernel
theorem dX7_fined_46 : decode cX7_fined 46 = .ok (.aload_n 0, 1) := by decide +kernel
theorem dX7_fined_47 : decode cX7_fined 47 = .ok (.invokevirtual 141, 3) := by decide +kernel
theorem dX7_fined_50 : decode cX7_fined 50 = .ok (.iload 6, 2) := by decide +kernel
theorem dX7_fined_52 : decode cX7_fined 52 = .ok (.iload 4, 2) := by decide +kernel
theorem dX7_fined_54 : decode cX7_fined 54 = .ok (.isub, 1) := by decide +kernel
theorem dX7_fined_55 : decode cX7_fined 55 = .ok (.ireturn, 1) := by decide +kernel
theorem dX7_finesWith_0 : decode cX7_finesWith 0 = .ok (.aload_n 0, 1) := by decide +kernel
theorem dX7_finesWith_1 : decode cX7_finesWith 1 = .ok (.iload_n 1, 1) := by decide +kernel
theorem dX7_finesWith_2 : decode cX7_finesWith 2 = .ok (.invokevirtual 56, 3) := by decide +kernel
theorem dX7_finesWith_5 : decode cX7_finesWith 5 = .ok (.ifCond .eq 26, 3) := by decide +kernel
theorem dX7_finesWith_8 : decode cX7_finesWith 8 = .ok (.iload_n 2, 1) := by decide +kernel
theorem dX7_finesWith_9 : decode cX7_finesWith 9 = .ok (.bipush 100, 2) := by decide +kernel
theorem dX7_finesWith_11 : decode cX7_finesWith 11 = .ok (.sipush 5000, 3) := by decide +kernel
theorem dX7_finesWith_14 : decode cX7_finesWith 14 = .ok (.invokestatic 35, 3) := by decide +kernel
theorem dX7_finesWith_17 : decode cX7_finesWith 17 = .ok (.ifCond .eq 14, 3) := by decide +kernel
theorem dX7_finesWith_20 : decode cX7_finesWith 20 = .ok (.iload_n 3, 1) := by decide +kernel
theorem dX7_finesWith_21 : decode cX7_finesWith 21 = .ok (.iconst 1, 1) := by decide +kernel
theorem dX7_finesWith_22 : decode cX7_finesWith 22 = .ok (.sipush 1000, 3) := by decide +kernel
theorem dX7_finesWith_25 : decode cX7_finesWith 25 = .ok (.invokestatic 35, 3) := by decide +kernel
theorem dX7_finesWith_28 : decode cX7_finesWith 28 = .ok (.ifCond .ne 8, 3) := by decide +kernel
theorem dX7_finesWith_31 : decode cX7_finesWith 31 = .ok (.ldc 46, 2) := by decide +kernel
theorem dX7_finesWith_33 : decode cX7_finesWith 33 = .ok (.goto 10, 3) := by decide +kernel
theorem dX7_finesWith_36 : decode cX7_finesWith 36 = .ok (.aload_n 0, 1) := by decide +kernel
theorem dX7_finesWith_37 : decode cX7_finesWith 37 = .ok (.iload_n 1, 1) := by decide +kernel
theorem dX7_finesWith_38 : decode cX7_finesWith 38 = .ok (.iload_n 2, 1) := by decide +kernel
theorem dX7_finesWith_39 : decode cX7_finesWith 39 = .ok (.iload_n 3, 1) := by decide +kernel
theorem dX7_finesWith_40 : decode cX7_finesWith 40 = .ok (.invokevirtual 147, 3) := by decide +kernel
theorem dX7_finesWith_43 : decode cX7_finesWith 43 = .ok (.ireturn, 1) := by decide +kernel
theorem dX7_quietBand_0 : decode cX7_quietBand 0 = .ok (.aload_n 0, 1) := by decide +kernel
theorem dX7_quietBand_1 : decode cX7_quietBand 1 = .ok (.iload_n 1, 1) := by decide +kernel
theorem dX7_quietBand_2 : decode cX7_quietBand 2 = .ok (.invokevirtual 56, 3) := by decide +kernel
theorem dX7_quietBand_5 : decode cX7_quietBand 5 = .ok (.ifCond .eq 14, 3) := by decide +kernel
theorem dX7_quietBand_8 : decode cX7_quietBand 8 = .ok (.iload_n 2, 1) := by decide +kernel
theorem dX7_quietBand_9 : decode cX7_quietBand 9 = .ok (.iconst 1, 1) := by decide +kernel
theorem dX7_quietBand_10 : decode cX7_quietBand 10 = .ok (.sipush 300, 3) := by decide +kernel
theorem dX7_quietBand_13 : decode cX7_quietBand 13 = .ok (.invokestatic 35, 3) := by decide +kernel
theorem dX7_quietBand_16 : decode cX7_quietBand 16 = .ok (.ifCond .ne 6, 3) := by decide +kernel
theorem dX7_quietBand_19 : decode cX7_quietBand 19 = .ok (.ldc 46, 2) := by decide +kernel
theorem dX7_quietBand_21 : decode cX7_quietBand 21 = .ok (.ireturn, 1) := by decide +kernel
theorem dX7_quietBand_22 : decode cX7_quietBand 22 = .ok (.bipush 100, 2) := by decide +kernel
theorem dX7_quietBand_24 : decode cX7_quietBand 24 = .ok (.istore_n 3, 1) := by decide +kernel
theorem dX7_quietBand_25 : decode cX7_quietBand 25 = .ok (.iload_n 3, 1) := by decide +kernel
theorem dX7_quietBand_26 : decode cX7_quietBand 26 = .ok (.sipush 5000, 3) := by decide +kernel
theorem dX7_quietBand_29 : decode cX7_quietBand 29 = .ok (.if_icmp .gt 19, 3) := by decide +kernel
theorem dX7_quietBand_32 : decode cX7_quietBand 32 = .ok (.aload_n 0, 1) := by decide +kernel
theorem dX7_quietBand_33 : decode cX7_quietBand 33 = .ok (.iload_n 1, 1) := by decide +kernel
theorem dX7_quietBand_34 : decode cX7_quietBand 34 = .ok (.iload_n 3, 1) := by decide +kernel
theorem dX7_quietBand_35 : decode cX7_quietBand 35 = .ok (.iload_n 2, 1) := by decide +kernel
theorem dX7_quietBand_36 : decode cX7_quietBand 36 = .ok (.invokevirtual 147, 3) := by decide +kernel
theorem dX7_quietBand_39 : decode cX7_quietBand 39 = .ok (.ifCond .le 9, 3) := by decide +kernel
theorem dX7_quietBand_42 : decode cX7_quietBand 42 = .ok (.iinc 3 100, 3) := by decide +kernel
theorem dX7_quietBand_45 : decode cX7_quietBand 45 = .ok (.goto (-20), 3) := by decide +kernel
theorem dX7_quietBand_48 : decode cX7_quietBand 48 = .ok (.iload_n 3, 1) := by decide +kernel
theorem dX7_quietBand_49 : decode cX7_quietBand 49 = .ok (.sipush 5000, 3) := by decide +kernel
theorem dX7_quietBand_52 : decode cX7_quietBand 52 = .ok (.if_icmp .gt 7, 3) := by decide +kernel
theorem dX7_quietBand_55 : decode cX7_quietBand 55 = .ok (.iload_n 3, 1) := by decide +kernel
theorem dX7_quietBand_56 : decode cX7_quietBand 56 = .ok (.goto 5, 3) := by decide +kernel
theorem dX7_quietBand_59 : decode cX7_quietBand 59 = .ok (.ldc 55, 2) := by decide +kernel
theorem dX7_quietBand_61 : decode cX7_quietBand 61 = .ok (.ireturn, 1) := by decide +kernel
theorem dL_law_0 : decode cL_law 0 = .ok (.new 7, 3) := by decide +kernel
theorem dL_law_3 : decode cL_law 3 = .ok (.dup, 1) := by decide +kernel
theorem dL_law_4 : decode cL_law 4 = .ok (.invokespecial 9, 3) := by decide +kernel
theorem dL_law_7 : decode cL_law 7 = .ok (.astore_n 1, 1) := by decide +kernel
theorem dL_law_8 : decode cL_law 8 = .ok (.new 10, 3) := by decide +kernel
theorem dL_law_11 : decode cL_law 11 = .ok (.dup, 1) := by decide +kernel
theorem dL_law_12 : decode cL_law 12 = .ok (.invokespecial 12, 3) := by decide +kernel
theorem dL_law_15 : decode cL_law 15 = .ok (.astore_n 2, 1) := by decide +kernel
theorem dL_law_16 : decode cL_law 16 = .ok (.iconst 0, 1) := by decide +kernel
theorem dL_law_17 : decode cL_law 17 = .ok (.istore_n 3, 1) := by decide +kernel
theorem dL_law_18 : decode cL_law 18 = .ok (.iload_n 3, 1) := by decide +kernel
theorem dL_law_19 : decode cL_law 19 = .ok (.aload_n 0, 1) := by decide +kernel
theorem dL_law_20 : decode cL_law 20 = .ok (.arraylength, 1) := by decide +kernel
theorem dL_law_21 : decode cL_law 21 = .ok (.iconst 5, 1) := by decide +kernel
theorem dL_law_22 : decode cL_law 22 = .ok (.isub, 1) := by decide +kernel
theorem dL_law_23 : decode cL_law 23 = .ok (.if_icmp .gt 718, 3) := by decide +kernel
theorem dL_law_26 : decode cL_law 26 = .ok (.aload_n 0, 1) := by decide +kernel
theorem dL_law_27 : decode cL_law 27 = .ok (.iload_n 3, 1) := by decide +kernel
theorem dL_law_28 : decode cL_law 28 = .ok (.iaload, 1) := by decide +kernel
theorem dL_law_29 : decode cL_law 29 = .ok (.bipush 31, 2) := by decide +kernel
theorem dL_law_31 : decode cL_law 31 = .ok (.iand, 1) := by decide +kernel
theorem dL_law_32 : decode cL_law 32 = .ok (.tableswitch 703 0 20 #[100, 153, 196, 239, 272, 305, 328, 351, 384, 417, 450, 473, 496, 509, 522, 545, 568, 591, 614, 657, 690], 100) := by decide +kernel
theorem dL_law_132 : decode cL_law 132 = .ok (.aload_n 1, 1) := by decide +kernel
theorem dL_law_133 : decode cL_law 133 = .ok (.aload_n 0, 1) := by decide +kernel
theorem dL_law_134 : decode cL_law 134 = .ok (.iload_n 3, 1) := by decide +kernel
theorem dL_law_135 : decode cL_law 135 = .ok (.iconst 1, 1) := by decide +kernel
theorem dL_law_136 : decode cL_law 136 = .ok (.iadd, 1) := by decide +kernel
theorem dL_law_137 : decode cL_law 137 = .ok (.iaload, 1) := by decide +kernel
theorem dL_law_138 : decode cL_law 138 = .ok (.aload_n 0, 1) := by decide +kernel
theorem dL_law_139 : decode cL_law 139 = .ok (.iload_n 3, 1) := by decide +kernel
theorem dL_law_140 : decode cL_law 140 = .ok (.iconst 2, 1) := by decide +kernel
theorem dL_law_141 : decode cL_law 141 = .ok (.iadd, 1) := by decide +kernel
theorem dL_law_142 : decode cL_law 142 = .ok (.iaload, 1) := by decide +kernel
theorem dL_law_143 : decode cL_law 143 = .ok (.aload_n 0, 1) := by decide +kernel
theorem dL_law_144 : decode cL_law 144 = .ok (.iload_n 3, 1) := by decide +kernel
theorem dL_law_145 : decode cL_law 145 = .ok (.iconst 3, 1) := by decide +kernel
theorem dL_law_146 : decode cL_law 146 = .ok (.iadd, 1) := by decide +kernel
theorem dL_law_147 : decode cL_law 147 = .ok (.iaload, 1) := by decide +kernel
theorem dL_law_148 : decode cL_law 148 = .ok (.aload_n 0, 1) := by decide +kernel
theorem dL_law_149 : decode cL_law 149 = .ok (.iload_n 3, 1) := by decide +kernel
theorem dL_law_150 : decode cL_law 150 = .ok (.iconst 4, 1) := by decide +kernel
theorem dL_law_151 : decode cL_law 151 = .ok (.iadd, 1) := by decide +kernel
theorem dL_law_152 : decode cL_law 152 = .ok (.iaload, 1) := by decide +kernel
theorem dL_law_153 : decode cL_law 153 = .ok (.invokevirtual 13, 3) := by decide +kernel
theorem dL_law_156 : decode cL_law 156 = .ok (.aload_n 2, 1) := by decide +kernel
theorem dL_law_157 : decode cL_law 157 = .ok (.aload_n 0, 1) := by decide +kernel
theorem dL_law_158 : decode cL_law 158 = .ok (.iload_n 3, 1) := by decide +kernel
theorem dL_law_159 : decode cL_law 159 = .ok (.iconst 1, 1) := by decide +kernel
theorem dL_law_160 : decode cL_law 160 = .ok (.iadd, 1) := by decide +kernel
theorem dL_law_161 : decode cL_law 161 = .ok (.iaload, 1) := by decide +kernel
theorem dL_law_162 : decode cL_law 162 = .ok (.aload_n 0, 1) := by decide +kernel
theorem dL_law_163 : decode cL_law 163 = .ok (.iload_n 3, 1) := by decide +kernel
theorem dL_law_164 : decode cL_law 164 = .ok (.iconst 2, 1) := by decide +kernel
theorem dL_law_165 : decode cL_law 165 = .ok (.iadd, 1) := by decide +kernel
theorem dL_law_166 : decode cL_law 166 = .ok (.iaload, 1) := by decide +kernel
theorem dL_law_167 : decode cL_law 167 = .ok (.aload_n 0, 1) := by decide +kernel
theorem dL_law_168 : decode cL_law 168 = .ok (.iload_n 3, 1) := by decide +kernel
theorem dL_law_169 : decode cL_law 169 = .ok (.iconst 3, 1) := by decide +kernel
theorem dL_law_170 : decode cL_law 170 = .ok (.iadd, 1) := by decide +kernel
theorem dL_law_171 : decode cL_law 171 = .ok (.iaload, 1) := by decide +kernel
theorem dL_law_172 : decode cL_law 172 = .ok (.aload_n 0, 1) := by decide +kernel
theorem dL_law_173 : decode cL_law 173 = .ok (.iload_n 3, 1) := by decide +kernel
theorem dL_law_174 : decode cL_law 174 = .ok (.iconst 4, 1) := by decide +kernel
theorem dL_law_175 : decode cL_law 175 = .ok (.iadd, 1) := by decide +kernel
theorem dL_law_176 : decode cL_law 176 = .ok (.iaload, 1) := by decide +kernel
theorem dL_law_177 : decode cL_law 177 = .ok (.invokevirtual 17, 3) := by decide +kernel
theorem dL_law_180 : decode cL_law 180 = .ok (.if_icmp .eq 555, 3) := by decide +kernel
theorem dL_law_183 : decode cL_law 183 = .ok (.iconst 0, 1) := by decide +kernel
theorem dL_law_184 : decode cL_law 184 = .ok (.ireturn, 1) := by decide +kernel
theorem dL_law_185 : decode cL_law 185 = .ok (.aload_n 1, 1) := by decide +kernel
theorem dL_law_186 : decode cL_law 186 = .ok (.aload_n 0, 1) := by decide +kernel
theorem dL_law_187 : decode cL_law 187 = .ok (.iload_n 3, 1) := by decide +kernel
theorem dL_law_188 : decode cL_law 188 = .ok (.iconst 1, 1) := by decide +kernel
theorem dL_law_189 : decode cL_law 189 = .ok (.iadd, 1) := by decide +kernel
theorem dL_law_190 : decode cL_law 190 = .ok (.iaload, 1) := by decide +kernel
theorem dL_law_191 : decode cL_law 191 = .ok (.aload_n 0, 1) := by decide +kernel
theorem dL_law_192 : decode cL_law 192 = .ok (.iload_n 3, 1) := by decide +kernel
theorem dL_law_193 : decode cL_law 193 = .ok (.iconst 2, 1) := by decide +kernel
theorem dL_law_194 : decode cL_law 194 = .ok (.iadd, 1) := by decide +kernel
theorem dL_law_195 : decode cL_law 195 = .ok (.iaload, 1) := by decide +kernel
theorem dL_law_196 : decode cL_law 196 = .ok (.aload_n 0, 1) := by decide +kernel
theorem dL_law_197 : decode cL_law 197 = .ok (.iload_n 3, 1) := by decide +kernel
theorem dL_law_198 : decode cL_law 198 = .ok (.iconst 3, 1) := by decide +kernel
theorem dL_law_199 : decode cL_law 199 = .ok (.iadd, 1) := by decide +kernel
theorem dL_law_200 : decode cL_law 200 = .ok (.iaload, 1) := by decide +kernel
theorem dL_law_201 : decode cL_law 201 = .ok (.invokevirtual 18, 3) := by decide +kernel
theorem dL_law_204 : decode cL_law 204 = .ok (.aload_n 2, 1) := by decide +kernel
theorem dL_law_205 : decode cL_law 205 = .ok (.aload_n 0, 1) := by decide +kernel
theorem dL_law_206 : decode cL_law 206 = .ok (.iload_n 3, 1) := by decide +kernel
theorem dL_law_207 : decode cL_law 207 = .ok (.iconst 1, 1) := by decide +kernel
theorem dL_law_208 : decode cL_law 208 = .ok (.iadd, 1) := by decide +kernel
theorem dL_law_209 : decode cL_law 209 = .ok (.iaload, 1) := by decide +kernel
theorem dL_law_210 : decode cL_law 210 = .ok (.aload_n 0, 1) := by decide +kernel
theorem dL_law_211 : decode cL_law 211 = .ok (.iload_n 3, 1) := by decide +kernel
theorem dL_law_212 : decode cL_law 212 = .ok (.iconst 2, 1) := by decide +kernel
theorem dL_law_213 : decode cL_law 213 = .ok (.iadd, 1) := by decide +kernel
theorem dL_law_214 : decode cL_law 214 = .ok (.iaload, 1) := by decide +kernel
theorem dL_law_215 : decode cL_law 215 = .ok (.aload_n 0, 1) := by decide +kernel
theorem dL_law_216 : decode cL_law 216 = .ok (.iload_n 3, 1) := by decide +kernel
theorem dL_law_217 : decode cL_law 217 = .ok (.iconst 3, 1) := by decide +kernel
theorem dL_law_218 : decode cL_law 218 = .ok (.iadd, 1) := by decide +kernel
theorem dL_law_219 : decode cL_law 219 = .ok (.iaload, 1) := by decide +kernel
theorem dL_law_220 : decode cL_law 220 = .ok (.invokevirtual 22, 3) := by decide +kernel
theorem dL_law_223 : decode cL_law 223 = .ok (.if_icmp .eq 512, 3) := by decide +kernel
theorem dL_law_226 : decode cL_law 226 = .ok (.iconst 0, 1) := by decide +kernel
theorem dL_law_227 : decode cL_law 227 = .ok (.ireturn, 1) := by decide +kernel
theorem dL_law_228 : decode cL_law 228 = .ok (.aload_n 1, 1) := by decide +kernel
theorem dL_law_229 : decode cL_law 229 = .ok (.aload_n 0, 1) := by decide +kernel
theorem dL_law_230 : decode cL_law 230 = .ok (.iload_n 3, 1) := by decide +kernel
theorem dL_law_231 : decode cL_law 231 = .ok (.iconst 1, 1) := by decide +kernel
theorem dL_law_232 : decode cL_law 232 = .ok (.iadd, 1) := by decide +kernel
theorem dL_law_233 : decode cL_law 233 = .ok (.iaload, 1) := by decide +kernel
theorem dL_law_234 : decode cL_law 234 = .ok (.aload_n 0, 1) := by decide +kernel
theorem dL_law_235 : decode cL_law 235 = .ok (.iload_n 3, 1) := by decide +kernel
theorem dL_law_236 : decode cL_law 236 = .ok (.iconst 2, 1) := by decide +kernel
theorem dL_law_237 : decode cL_law 237 = .ok (.iadd, 1) := by decide +kernel
theorem dL_law_238 : decode cL_law 238 = .ok (.iaload, 1) := by decide +kernel
theorem dL_law_239 : decode cL_law 239 = .ok (.aload_n 0, 1) := by decide +kernel
theorem dL_law_240 : decode cL_law 240 = .ok (.iload_n 3, 1) := by decide +kernel
theorem dL_law_241 : decode cL_law 241 = .ok (.iconst 3, 1) := by decide +kernel
theorem dL_law_242 : decode cL_law 242 = .ok (.iadd, 1) := by decide +kernel
theorem dL_law_243 : decode cL_law 243 = .ok (.iaload, 1) := by decide +kernel
theorem dL_law_244 : decode cL_law 244 = .ok (.invokevirtual 23, 3) := by decide +kernel
theorem dL_law_247 : decode cL_law 247 = .ok (.aload_n 2, 1) := by decide +kernel
theorem dL_law_248 : decode cL_law 248 = .ok (.aload_n 0, 1) := by decide +kernel
theorem dL_law_249 : decode cL_law 249 = .ok (.iload_n 3, 1) := by decide +kernel
theorem dL_law_250 : decode cL_law 250 = .ok (.iconst 1, 1) := by decide +kernel
theorem dL_law_251 : decode cL_law 251 = .ok (.iadd, 1) := by decide +kernel
theorem dL_law_252 : decode cL_law 252 = .ok (.iaload, 1) := by decide +kernel
theorem dL_law_253 : decode cL_law 253 = .ok (.aload_n 0, 1) := by decide +kernel
theorem dL_law_254 : decode cL_law 254 = .ok (.iload_n 3, 1) := by decide +kernel
theorem dL_law_255 : decode cL_law 255 = .ok (.iconst 2, 1) := by decide +kernel
theorem dL_law_256 : decode cL_law 256 = .ok (.iadd, 1) := by decide +kernel
theorem dL_law_257 : decode cL_law 257 = .ok (.iaload, 1) := by decide +kernel
theorem dL_law_258 : decode cL_law 258 = .ok (.aload_n 0, 1) := by decide +kernel
theorem dL_law_259 : decode cL_law 259 = .ok (.iload_n 3, 1) := by decide +kernel
theorem dL_law_260 : decode cL_law 260 = .ok (.iconst 3, 1) := by decide +kernel
theorem dL_law_261 : decode cL_law 261 = .ok (.iadd, 1) := by decide +kernel
theorem dL_law_262 : decode cL_law 262 = .ok (.iaload, 1) := by decide +kernel
theorem dL_law_263 : decode cL_law 263 = .ok (.invokevirtual 26, 3) := by decide +kernel
theorem dL_law_266 : decode cL_law 266 = .ok (.if_icmp .eq 469, 3) := by decide +kernel
theorem dL_law_269 : decode cL_law 269 = .ok (.iconst 0, 1) := by decide +kernel
theorem dL_law_270 : decode cL_law 270 = .ok (.ireturn, 1) := by decide +kernel
theorem dL_law_271 : decode cL_law 271 = .ok (.aload_n 1, 1) := by decide +kernel
theorem dL_law_272 : decode cL_law 272 = .ok (.aload_n 0, 1) := by decide +kernel
theorem dL_law_273 : decode cL_law 273 = .ok (.iload_n 3, 1) := by decide +kernel
theorem dL_law_274 : decode cL_law 274 = .ok (.iconst 1, 1) := by decide +kernel
theorem dL_law_275 : decode cL_law 275 = .ok (.iadd, 1) := by decide +kernel
theorem dL_law_276 : decode cL_law 276 = .ok (.iaload, 1) := by decide +kernel
theorem dL_law_277 : decode cL_law 277 = .ok (.aload_n 0, 1) := by decide +kernel
theorem dL_law_278 : decode cL_law 278 = .ok (.iload_n 3, 1) := by decide +kernel
theorem dL_law_279 : decode cL_law 279 = .ok (.iconst 2, 1) := by decide +kernel
theorem dL_law_280 : decode cL_law 280 = .ok (.iadd, 1) := by decide +kernel
theorem dL_law_281 : decode cL_law 281 = .ok (.iaload, 1) := by decide +kernel
theorem dL_law_282 : decode cL_law 282 = .ok (.invokevirtual 27, 3) := by decide +kernel
theorem dL_law_285 : decode cL_law 285 = .ok (.aload_n 2, 1) := by decide +kernel
theorem dL_law_286 : decode cL_law 286 = .ok (.aload_n 0, 1) := by decide +kernel
theorem dL_law_287 : decode cL_law 287 = .ok (.iload_n 3, 1) := by decide +kernel
theorem dL_law_288 : decode cL_law 288 = .ok (.iconst 1, 1) := by decide +kernel
theorem dL_law_289 : decode cL_law 289 = .ok (.iadd, 1) := by decide +kernel
theorem dL_law_290 : decode cL_law 290 = .ok (.iaload, 1) := by decide +kernel
theorem dL_law_291 : decode cL_law 291 = .ok (.aload_n 0, 1) := by decide +kernel
theorem dL_law_292 : decode cL_law 292 = .ok (.iload_n 3, 1) := by decide +kernel
theorem dL_law_293 : decode cL_law 293 = .ok (.iconst 2, 1) := by decide +kernel
theorem dL_law_294 : decode cL_law 294 = .ok (.iadd, 1) := by decide +kernel
theorem dL_law_295 : decode cL_law 295 = .ok (.iaload, 1) := by decide +kernel
theorem dL_law_296 : decode cL_law 296 = .ok (.invokevirtual 31, 3) := by decide +kernel
theorem dL_law_299 : decode cL_law 299 = .ok (.if_icmp .eq 436, 3) := by decide +kernel
theorem dL_law_302 : decode cL_law 302 = .ok (.iconst 0, 1) := by decide +kernel
theorem dL_law_303 : decode cL_law 303 = .ok (.ireturn, 1) := by decide +kernel
theorem dL_law_304 : decode cL_law 304 = .ok (.aload_n 1, 1) := by decide +kernel
theorem dL_law_305 : decode cL_law 305 = .ok (.aload_n 0, 1) := by decide +kernel
theorem dL_law_306 : decode cL_law 306 = .ok (.iload_n 3, 1) := by decide +kernel
theorem dL_law_307 : decode cL_law 307 = .ok (.iconst 1, 1) := by decide +kernel
theorem dL_law_308 : decode cL_law 308 = .ok (.iadd, 1) := by decide +kernel
theorem dL_law_309 : decode cL_law 309 = .ok (.iaload, 1) := by decide +kernel
theorem dL_law_310 : decode cL_law 310 = .ok (.aload_n 0, 1) := by decide +kernel
theorem dL_law_311 : decode cL_law 311 = .ok (.iload_n 3, 1) := by decide +kernel
theorem dL_law_312 : decode cL_law 312 = .ok (.iconst 2, 1) := by decide +kernel
theorem dL_law_313 : decode cL_law 313 = .ok (.iadd, 1) := by decide +kernel
theorem dL_law_314 : decode cL_law 314 = .ok (.iaload, 1) := by decide +kernel
theorem dL_law_315 : decode cL_law 315 = .ok (.invokevirtual 32, 3) := by decide +kernel
theorem dL_law_318 : decode cL_law 318 = .ok (.aload_n 2, 1) := by decide +kernel
theorem dL_law_319 : decode cL_law 319 = .ok (.aload_n 0, 1) := by decide +kernel
theorem dL_law_320 : decode cL_law 320 = .ok (.iload_n 3, 1) := by decide +kernel
theorem dL_law_321 : decode cL_law 321 = .ok (.iconst 1, 1) := by decide +kernel
theorem dL_law_322 : decode cL_law 322 = .ok (.iadd, 1) := by decide +kernel
theorem dL_law_323 : decode cL_law 323 = .ok (.iaload, 1) := by decide +kernel
theorem dL_law_324 : decode cL_law 324 = .ok (.aload_n 0, 1) := by decide +kernel
theorem dL_law_325 : decode cL_law 325 = .ok (.iload_n 3, 1) := by decide +kernel
theorem dL_law_326 : decode cL_law 326 = .ok (.iconst 2, 1) := by decide +kernel
theorem dL_law_327 : decode cL_law 327 = .ok (.iadd, 1) := by decide +kernel
theorem dL_law_328 : decode cL_law 328 = .ok (.iaload, 1) := by decide +kernel
theorem dL_law_329 : decode cL_law 329 = .ok (.invokevirtual 35, 3) := by decide +kernel
theorem dL_law_332 : decode cL_law 332 = .ok (.if_icmp .eq 403, 3) := by decide +kernel
theorem dL_law_335 : decode cL_law 335 = .ok (.iconst 0, 1) := by decide +kernel
theorem dL_law_336 : decode cL_law 336 = .ok (.ireturn, 1) := by decide +kernel
theorem dL_law_337 : decode cL_law 337 = .ok (.aload_n 1, 1) := by decide +kernel
theorem dL_law_338 : decode cL_law 338 = .ok (.aload_n 0, 1) := by decide +kernel
theorem dL_law_339 : decode cL_law 339 = .ok (.iload_n 3, 1) := by decide +kernel
theorem dL_law_340 : decode cL_law 340 = .ok (.iconst 1, 1) := by decide +kernel
theorem dL_law_341 : decode cL_law 341 = .ok (.iadd, 1) := by decide +kernel
theorem dL_law_342 : decode cL_law 342 = .ok (.iaload, 1) := by decide +kernel
theorem dL_law_343 : decode cL_law 343 = .ok (.invokevirtual 36, 3) := by decide +kernel
theorem dL_law_346 : decode cL_law 346 = .ok (.aload_n 2, 1) := by decide +kernel
theorem dL_law_347 : decode cL_law 347 = .ok (.aload_n 0, 1) := by decide +kernel
theorem dL_law_348 : decode cL_law 348 = .ok (.iload_n 3, 1) := by decide +kernel
theorem dL_law_349 : decode cL_law 349 = .ok (.iconst 1, 1) := by decide +kernel
theorem dL_law_350 : decode cL_law 350 = .ok (.iadd, 1) := by decide +kernel
theorem dL_law_351 : decode cL_law 351 = .ok (.iaload, 1) := by decide +kernel
theorem dL_law_352 : decode cL_law 352 = .ok (.invokevirtual 40, 3) := by decide +kernel
theorem dL_law_355 : decode cL_law 355 = .ok (.if_icmp .eq 380, 3) := by decide +kernel
theorem dL_law_358 : decode cL_law 358 = .ok (.iconst 0, 1) := by decide +kernel
theorem dL_law_359 : decode cL_law 359 = .ok (.ireturn, 1) := by decide +kernel
theorem dL_law_360 : decode cL_law 360 = .ok (.aload_n 1, 1) := by decide +kernel
theorem dL_law_361 : decode cL_law 361 = .ok (.aload_n 0, 1) := by decide +kernel
theorem dL_law_362 : decode cL_law 362 = .ok (.iload_n 3, 1) := by decide +kernel
theorem dL_law_363 : decode cL_law 363 = .ok (.iconst 1, 1) := by decide +kernel
theorem dL_law_364 : decode cL_law 364 = .ok (.iadd, 1) := by decide +kernel
theorem dL_law_365 : decode cL_law 365 = .ok (.iaload, 1) := by decide +kernel
theorem dL_law_366 : decode cL_law 366 = .ok (.invokevirtual 41, 3) := by decide +kernel
theorem dL_law_369 : decode cL_law 369 = .ok (.aload_n 2, 1) := by decide +kernel
theorem dL_law_370 : decode cL_law 370 = .ok (.aload_n 0, 1) := by decide +kernel
theorem dL_law_371 : decode cL_law 371 = .ok (.iload_n 3, 1) := by decide +kernel
theorem dL_law_372 : decode cL_law 372 = .ok (.iconst 1, 1) := by decide +kernel
theorem dL_law_373 : decode cL_law 373 = .ok (.iadd, 1) := by decide +kernel
theorem dL_law_374 : decode cL_law 374 = .ok (.iaload, 1) := by decide +kernel
theorem dL_law_375 : decode cL_law 375 = .ok (.invokevirtual 44, 3) := by decide +kernel
theorem dL_law_378 : decode cL_law 378 = .ok (.if_icmp .eq 357, 3) := by decide +kernel
theorem dL_law_381 : decode cL_law 381 = .ok (.iconst 0, 1) := by decide +kernel
theorem dL_law_382 : decode cL_law 382 = .ok (.ireturn, 1) := by decide +kernel
theorem dL_law_383 : decode cL_law 383 = .ok (.aload_n 1, 1) := by decide +kernel
theorem dL_law_384 : decode cL_law 384 = .ok (.aload_n 0, 1) := by decide +kernel
theorem dL_law_385 : decode cL_law 385 = .ok (.iload_n 3, 1) := by decide +kernel
theorem dL_law_386 : decode cL_law 386 = .ok (.iconst 1, 1) := by decide +kernel
theorem dL_law_387 : decode cL_law 387 = .ok (.iadd, 1) := by decide +kernel
theorem dL_law_388 : decode cL_law 388 = .ok (.iaload, 1) := by decide +kernel
theorem dL_law_389 : decode cL_law 389 = .ok (.aload_n 0, 1) := by decide +kernel
theorem dL_law_390 : decode cL_law 390 = .ok (.iload_n 3, 1) := by decide +kernel
theorem dL_law_391 : decode cL_law 391 = .ok (.iconst 2, 1) := by decide +kernel
theorem dL_law_392 : decode cL_law 392 = .ok (.iadd, 1) := by decide +kernel
theorem dL_law_393 : decode cL_law 393 = .ok (.iaload, 1) := by decide +kernel
theorem dL_law_394 : decode cL_law 394 = .ok (.invokevirtual 45, 3) := by decide +kernel
theorem dL_law_397 : decode cL_law 397 = .ok (.aload_n 2, 1) := by decide +kernel
theorem dL_law_398 : decode cL_law 398 = .ok (.aload_n 0, 1) := by decide +kernel
theorem dL_law_399 : decode cL_law 399 = .ok (.iload_n 3, 1) := by decide +kernel
theorem dL_law_400 : decode cL_law 400 = .ok (.iconst 1, 1) := by decide +kernel
theorem dL_law_401 : decode cL_law 401 = .ok (.iadd, 1) := by decide +kernel
theorem dL_law_402 : decode cL_law 402 = .ok (.iaload, 1) := by decide +kernel
theorem dL_law_403 : decode cL_law 403 = .ok (.aload_n 0, 1) := by decide +kernel
theorem dL_law_404 : decode cL_law 404 = .ok (.iload_n 3, 1) := by decide +kernel
theorem dL_law_405 : decode cL_law 405 = .ok (.iconst 2, 1) := by decide +kernel
theorem dL_law_406 : decode cL_law 406 = .ok (.iadd, 1) := by decide +kernel
theorem dL_law_407 : decode cL_law 407 = .ok (.iaload, 1) := by decide +kernel
theorem dL_law_408 : decode cL_law 408 = .ok (.invokevirtual 48, 3) := by decide +kernel
theorem dL_law_411 : decode cL_law 411 = .ok (.if_icmp .eq 324, 3) := by decide +kernel
theorem dL_law_414 : decode cL_law 414 = .ok (.iconst 0, 1) := by decide +kernel
theorem dL_law_415 : decode cL_law 415 = .ok (.ireturn, 1) := by decide +kernel
theorem dL_law_416 : decode cL_law 416 = .ok (.aload_n 1, 1) := by decide +kernel
theorem dL_law_417 : decode cL_law 417 = .ok (.aload_n 0, 1) := by decide +kernel
theorem dL_law_418 : decode cL_law 418 = .ok (.iload_n 3, 1) := by decide +kernel
theorem dL_law_419 : decode cL_law 419 = .ok (.iconst 1, 1) := by decide +kernel
theorem dL_law_420 : decode cL_law 420 = .ok (.iadd, 1) := by decide +kernel
theorem dL_law_421 : decode cL_law 421 = .ok (.iaload, 1) := by decide +kernel
theorem dL_law_422 : decode cL_law 422 = .ok (.aload_n 0, 1) := by decide +kernel
theorem dL_law_423 : decode cL_law 423 = .ok (.iload_n 3, 1) := by decide +kernel
theorem dL_law_424 : decode cL_law 424 = .ok (.iconst 2, 1) := by decide +kernel
theorem dL_law_425 : decode cL_law 425 = .ok (.iadd, 1) := by decide +kernel
theorem dL_law_426 : decode cL_law 426 = .ok (.iaload, 1) := by decide +kernel
theorem dL_law_427 : decode cL_law 427 = .ok (.invokevirtual 49, 3) := by decide +kernel
theorem dL_law_430 : decode cL_law 430 = .ok (.aload_n 2, 1) := by decide +kernel
theorem dL_law_431 : decode cL_law 431 = .ok (.aload_n 0, 1) := by decide +kernel
theorem dL_law_432 : decode cL_law 432 = .ok (.iload_n 3, 1) := by decide +kernel
theorem dL_law_433 : decode cL_law 433 = .ok (.iconst 1, 1) := by decide +kernel
theorem dL_law_434 : decode cL_law 434 = .ok (.iadd, 1) := by decide +kernel
theorem dL_law_435 : decode cL_law 435 = .ok (.iaload, 1) := by decide +kernel
theorem dL_law_436 : decode cL_law 436 = .ok (.aload_n 0, 1) := by decide +kernel
theorem dL_law_437 : decode cL_law 437 = .ok (.iload_n 3, 1) := by decide +kernel
theorem dL_law_438 : decode cL_law 438 = .ok (.iconst 2, 1) := by decide +kernel
theorem dL_law_439 : decode cL_law 439 = .ok (.iadd, 1) := by decide +kernel
theorem dL_law_440 : decode cL_law 440 = .ok (.iaload, 1) := by decide +kernel
theorem dL_law_441 : decode cL_law 441 = .ok (.invokevirtual 52, 3) := by decide +kernel
theorem dL_law_444 : decode cL_law 444 = .ok (.if_icmp .eq 291, 3) := by decide +kernel
theorem dL_law_447 : decode cL_law 447 = .ok (.iconst 0, 1) := by decide +kernel
theorem dL_law_448 : decode cL_law 448 = .ok (.ireturn, 1) := by decide +kernel
theorem dL_law_449 : decode cL_law 449 = .ok (.aload_n 1, 1) := by decide +kernel
theorem dL_law_450 : decode cL_law 450 = .ok (.aload_n 0, 1) := by decide +kernel
theorem dL_law_451 : decode cL_law 451 = .ok (.iload_n 3, 1) := by decide +kernel
theorem dL_law_452 : decode cL_law 452 = .ok (.iconst 1, 1) := by decide +kernel
theorem dL_law_453 : decode cL_law 453 = .ok (.iadd, 1) := by decide +kernel
theorem dL_law_454 : decode cL_law 454 = .ok (.iaload, 1) := by decide +kernel
theorem dL_law_455 : decode cL_law 455 = .ok (.aload_n 0, 1) := by decide +kernel
theorem dL_law_456 : decode cL_law 456 = .ok (.iload_n 3, 1) := by decide +kernel
theorem dL_law_457 : decode cL_law 457 = .ok (.iconst 2, 1) := by decide +kernel
theorem dL_law_458 : decode cL_law 458 = .ok (.iadd, 1) := by decide +kernel
theorem dL_law_459 : decode cL_law 459 = .ok (.iaload, 1) := by decide +kernel
theorem dL_law_460 : decode cL_law 460 = .ok (.invokevirtual 53, 3) := by decide +kernel
theorem dL_law_463 : decode cL_law 463 = .ok (.aload_n 2, 1) := by decide +kernel
theorem dL_law_464 : decode cL_law 464 = .ok (.aload_n 0, 1) := by decide +kernel
theorem dL_law_465 : decode cL_law 465 = .ok (.iload_n 3, 1) := by decide +kernel
theorem dL_law_466 : decode cL_law 466 = .ok (.iconst 1, 1) := by decide +kernel
theorem dL_law_467 : decode cL_law 467 = .ok (.iadd, 1) := by decide +kernel
theorem dL_law_468 : decode cL_law 468 = .ok (.iaload, 1) := by decide +kernel
theorem dL_law_469 : decode cL_law 469 = .ok (.aload_n 0, 1) := by decide +kernel
theorem dL_law_470 : decode cL_law 470 = .ok (.iload_n 3, 1) := by decide +kernel
theorem dL_law_471 : decode cL_law 471 = .ok (.iconst 2, 1) := by decide +kernel
theorem dL_law_472 : decode cL_law 472 = .ok (.iadd, 1) := by decide +kernel
theorem dL_law_473 : decode cL_law 473 = .ok (.iaload, 1) := by decide +kernel
theorem dL_law_474 : decode cL_law 474 = .ok (.invokevirtual 56, 3) := by decide +kernel
theorem dL_law_477 : decode cL_law 477 = .ok (.if_icmp .eq 258, 3) := by decide +kernel
theorem dL_law_480 : decode cL_law 480 = .ok (.iconst 0, 1) := by decide +kernel
theorem dL_law_481 : decode cL_law 481 = .ok (.ireturn, 1) := by decide +kernel
theorem dL_law_482 : decode cL_law 482 = .ok (.aload_n 1, 1) := by decide +kernel
theorem dL_law_483 : decode cL_law 483 = .ok (.aload_n 0, 1) := by decide +kernel
theorem dL_law_484 : decode cL_law 484 = .ok (.iload_n 3, 1) := by decide +kernel
theorem dL_law_485 : decode cL_law 485 = .ok (.iconst 1, 1) := by decide +kernel
theorem dL_law_486 : decode cL_law 486 = .ok (.iadd, 1) := by decide +kernel
theorem dL_law_487 : decode cL_law 487 = .ok (.iaload, 1) := by decide +kernel
theorem dL_law_488 : decode cL_law 488 = .ok (.invokevirtual 57, 3) := by decide +kernel
theorem dL_law_491 : decode cL_law 491 = .ok (.aload_n 2, 1) := by decide +kernel
theorem dL_law_492 : decode cL_law 492 = .ok (.aload_n 0, 1) := by decide +kernel
theorem dL_law_493 : decode cL_law 493 = .ok (.iload_n 3, 1) := by decide +kernel
theorem dL_law_494 : decode cL_law 494 = .ok (.iconst 1, 1) := by decide +kernel
theorem dL_law_495 : decode cL_law 495 = .ok (.iadd, 1) := by decide +kernel
theorem dL_law_496 : decode cL_law 496 = .ok (.iaload, 1) := by decide +kernel
theorem dL_law_497 : decode cL_law 497 = .ok (.invokevirtual 60, 3) := by decide +kernel
theorem dL_law_500 : decode cL_law 500 = .ok (.if_icmp .eq 235, 3) := by decide +kernel
theorem dL_law_503 : decode cL_law 503 = .ok (.iconst 0, 1) := by decide +kernel
theorem dL_law_504 : decode cL_law 504 = .ok (.ireturn, 1) := by decide +kernel
theorem dL_law_505 : decode cL_law 505 = .ok (.aload_n 1, 1) := by decide +kernel
theorem dL_law_506 : decode cL_law 506 = .ok (.aload_n 0, 1) := by decide +kernel
theorem dL_law_507 : decode cL_law 507 = .ok (.iload_n 3, 1) := by decide +kernel
theorem dL_law_508 : decode cL_law 508 = .ok (.iconst 1, 1) := by decide +kernel
theorem dL_law_509 : decode cL_law 509 = .ok (.iadd, 1) := by decide +kernel
theorem dL_law_510 : decode cL_law 510 = .ok (.iaload, 1) := by decide +kernel
theorem dL_law_511 : decode cL_law 511 = .ok (.invokevirtual 61, 3) := by decide +kernel
theorem dL_law_514 : decode cL_law 514 = .ok (.aload_n 2, 1) := by decide +kernel
theorem dL_law_515 : decode cL_law 515 = .ok (.aload_n 0, 1) := by decide +kernel
theorem dL_law_516 : decode cL_law 516 = .ok (.iload_n 3, 1) := by decide +kernel
theorem dL_law_517 : decode cL_law 517 = .ok (.iconst 1, 1) := by decide +kernel
theorem dL_law_518 : decode cL_law 518 = .ok (.iadd, 1) := by decide +kernel
theorem dL_law_519 : decode cL_law 519 = .ok (.iaload, 1) := by decide +kernel
theorem dL_law_520 : decode cL_law 520 = .ok (.invokevirtual 64, 3) := by decide +kernel
theorem dL_law_523 : decode cL_law 523 = .ok (.if_icmp .eq 212, 3) := by decide +kernel
theorem dL_law_526 : decode cL_law 526 = .ok (.iconst 0, 1) := by decide +kernel
theorem dL_law_527 : decode cL_law 527 = .ok (.ireturn, 1) := by decide +kernel
theorem dL_law_528 : decode cL_law 528 = .ok (.aload_n 1, 1) := by decide +kernel
theorem dL_law_529 : decode cL_law 529 = .ok (.invokevirtual 65, 3) := by decide +kernel
theorem dL_law_532 : decode cL_law 532 = .ok (.aload_n 2, 1) := by decide +kernel
theorem dL_law_533 : decode cL_law 533 = .ok (.invokevirtual 69, 3) := by decide +kernel
theorem dL_law_536 : decode cL_law 536 = .ok (.if_icmp .eq 199, 3) := by decide +kernel
theorem dL_law_539 : decode cL_law 539 = .ok (.iconst 0, 1) := by decide +kernel
theorem dL_law_540 : decode cL_law 540 = .ok (.ireturn, 1) := by decide +kernel
theorem dL_law_541 : decode cL_law 541 = .ok (.aload_n 1, 1) := by decide +kernel
theorem dL_law_542 : decode cL_law 542 = .ok (.invokevirtual 70, 3) := by decide +kernel
theorem dL_law_545 : decode cL_law 545 = .ok (.aload_n 2, 1) := by decide +kernel
theorem dL_law_546 : decode cL_law 546 = .ok (.invokevirtual 73, 3) := by decide +kernel
theorem dL_law_549 : decode cL_law 549 = .ok (.if_icmp .eq 186, 3) := by decide +kernel
theorem dL_law_552 : decode cL_law 552 = .ok (.iconst 0, 1) := by decide +kernel
theorem dL_law_553 : decode cL_law 553 = .ok (.ireturn, 1) := by decide +kernel
theorem dL_law_554 : decode cL_law 554 = .ok (.aload_n 1, 1) := by decide +kernel
theorem dL_law_555 : decode cL_law 555 = .ok (.aload_n 0, 1) := by decide +kernel
theorem dL_law_556 : decode cL_law 556 = .ok (.iload_n 3, 1) := by decide +kernel
theorem dL_law_557 : decode cL_law 557 = .ok (.iconst 1, 1) := by decide +kernel
theorem dL_law_558 : decode cL_law 558 = .ok (.iadd, 1) := by decide +kernel
theorem dL_law_559 : decode cL_law 559 = .ok (.iaload, 1) := by decide +kernel
theorem dL_law_560 : decode cL_law 560 = .ok (.invokevirtual 74, 3) := by decide +kernel
theorem dL_law_563 : decode cL_law 563 = .ok (.aload_n 2, 1) := by decide +kernel
theorem dL_law_564 : decode cL_law 564 = .ok (.aload_n 0, 1) := by decide +kernel
theorem dL_law_565 : decode cL_law 565 = .ok (.iload_n 3, 1) := by decide +kernel
theorem dL_law_566 : decode cL_law 566 = .ok (.iconst 1, 1) := by decide +kernel
theorem dL_law_567 : decode cL_law 567 = .ok (.iadd, 1) := by decide +kernel
theorem dL_law_568 : decode cL_law 568 = .ok (.iaload, 1) := by decide +kernel
theorem dL_law_569 : decode cL_law 569 = .ok (.invokevirtual 77, 3) := by decide +kernel
theorem dL_law_572 : decode cL_law 572 = .ok (.if_icmp .eq 163, 3) := by decide +kernel
theorem dL_law_575 : decode cL_law 575 = .ok (.iconst 0, 1) := by decide +kernel
theorem dL_law_576 : decode cL_law 576 = .ok (.ireturn, 1) := by decide +kernel
theorem dL_law_577 : decode cL_law 577 = .ok (.aload_n 1, 1) := by decide +kernel
theorem dL_law_578 : decode cL_law 578 = .ok (.aload_n 0, 1) := by decide +kernel
theorem dL_law_579 : decode cL_law 579 = .ok (.iload_n 3, 1) := by decide +kernel
theorem dL_law_580 : decode cL_law 580 = .ok (.iconst 1, 1) := by decide +kernel
theorem dL_law_581 : decode cL_law 581 = .ok (.iadd, 1) := by decide +kernel
theorem dL_law_582 : decode cL_law 582 = .ok (.iaload, 1) := by decide +kernel
theorem dL_law_583 : decode cL_law 583 = .ok (.invokevirtual 78, 3) := by decide +kernel
theorem dL_law_586 : decode cL_law 586 = .ok (.aload_n 2, 1) := by decide +kernel
theorem dL_law_587 : decode cL_law 587 = .ok (.aload_n 0, 1) := by decide +kernel
theorem dL_law_588 : decode cL_law 588 = .ok (.iload_n 3, 1) := by decide +kernel
theorem dL_law_589 : decode cL_law 589 = .ok (.iconst 1, 1) := by decide +kernel
theorem dL_law_590 : decode cL_law 590 = .ok (.iadd, 1) := by decide +kernel
theorem dL_law_591 : decode cL_law 591 = .ok (.iaload, 1) := by decide +kernel
theorem dL_law_592 : decode cL_law 592 = .ok (.invokevirtual 81, 3) := by decide +kernel
theorem dL_law_595 : decode cL_law 595 = .ok (.if_icmp .eq 140, 3) := by decide +kernel
theorem dL_law_598 : decode cL_law 598 = .ok (.iconst 0, 1) := by decide +kernel
theorem dL_law_599 : decode cL_law 599 = .ok (.ireturn, 1) := by decide +kernel
theorem dL_law_600 : decode cL_law 600 = .ok (.aload_n 1, 1) := by decide +kernel
theorem dL_law_601 : decode cL_law 601 = .ok (.aload_n 0, 1) := by decide +kernel
theorem dL_law_602 : decode cL_law 602 = .ok (.iload_n 3, 1) := by decide +kernel
theorem dL_law_603 : decode cL_law 603 = .ok (.iconst 1, 1) := by decide +kernel
theorem dL_law_604 : decode cL_law 604 = .ok (.iadd, 1) := by decide +kernel
theorem dL_law_605 : decode cL_law 605 = .ok (.iaload, 1) := by decide +kernel
theorem dL_law_606 : decode cL_law 606 = .ok (.invokevirtual 82, 3) := by decide +kernel
theorem dL_law_609 : decode cL_law 609 = .ok (.aload_n 2, 1) := by decide +kernel
theorem dL_law_610 : decode cL_law 610 = .ok (.aload_n 0, 1) := by decide +kernel
theorem dL_law_611 : decode cL_law 611 = .ok (.iload_n 3, 1) := by decide +kernel
theorem dL_law_612 : decode cL_law 612 = .ok (.iconst 1, 1) := by decide +kernel
theorem dL_law_613 : decode cL_law 613 = .ok (.iadd, 1) := by decide +kernel
theorem dL_law_614 : decode cL_law 614 = .ok (.iaload, 1) := by decide +kernel
theorem dL_law_615 : decode cL_law 615 = .ok (.invokevirtual 85, 3) := by decide +kernel
theorem dL_law_618 : decode cL_law 618 = .ok (.if_icmp .eq 117, 3) := by decide +kernel
theorem dL_law_621 : decode cL_law 621 = .ok (.iconst 0, 1) := by decide +kernel
theorem dL_law_622 : decode cL_law 622 = .ok (.ireturn, 1) := by decide +kernel
theorem dL_law_623 : decode cL_law 623 = .ok (.aload_n 1, 1) := by decide +kernel
theorem dL_law_624 : decode cL_law 624 = .ok (.aload_n 0, 1) := by decide +kernel
theorem dL_law_625 : decode cL_law 625 = .ok (.iload_n 3, 1) := by decide +kernel
theorem dL_law_626 : decode cL_law 626 = .ok (.iconst 1, 1) := by decide +kernel
theorem dL_law_627 : decode cL_law 627 = .ok (.iadd, 1) := by decide +kernel
theorem dL_law_628 : decode cL_law 628 = .ok (.iaload, 1) := by decide +kernel
theorem dL_law_629 : decode cL_law 629 = .ok (.invokevirtual 86, 3) := by decide +kernel
theorem dL_law_632 : decode cL_law 632 = .ok (.aload_n 2, 1) := by decide +kernel
theorem dL_law_633 : decode cL_law 633 = .ok (.aload_n 0, 1) := by decide +kernel
theorem dL_law_634 : decode cL_law 634 = .ok (.iload_n 3, 1) := by decide +kernel
theorem dL_law_635 : decode cL_law 635 = .ok (.iconst 1, 1) := by decide +kernel
theorem dL_law_636 : decode cL_law 636 = .ok (.iadd, 1) := by decide +kernel
theorem dL_law_637 : decode cL_law 637 = .ok (.iaload, 1) := by decide +kernel
theorem dL_law_638 : decode cL_law 638 = .ok (.invokevirtual 89, 3) := by decide +kernel
theorem dL_law_641 : decode cL_law 641 = .ok (.if_icmp .eq 94, 3) := by decide +kernel
theorem dL_law_644 : decode cL_law 644 = .ok (.iconst 0, 1) := by decide +kernel
theorem dL_law_645 : decode cL_law 645 = .ok (.ireturn, 1) := by decide +kernel
theorem dL_law_646 : decode cL_law 646 = .ok (.aload_n 1, 1) := by decide +kernel
theorem dL_law_647 : decode cL_law 647 = .ok (.aload_n 0, 1) := by decide +kernel
theorem dL_law_648 : decode cL_law 648 = .ok (.iload_n 3, 1) := by decide +kernel
theorem dL_law_649 : decode cL_law 649 = .ok (.iconst 1, 1) := by decide +kernel
theorem dL_law_650 : decode cL_law 650 = .ok (.iadd, 1) := by decide +kernel
theorem dL_law_651 : decode cL_law 651 = .ok (.iaload, 1) := by decide +kernel
theorem dL_law_652 : decode cL_law 652 = .ok (.aload_n 0, 1) := by decide +kernel
theorem dL_law_653 : decode cL_law 653 = .ok (.iload_n 3, 1) := by decide +kernel
theorem dL_law_654 : decode cL_law 654 = .ok (.iconst 2, 1) := by decide +kernel
theorem dL_law_655 : decode cL_law 655 = .ok (.iadd, 1) := by decide +kernel
theorem dL_law_656 : decode cL_law 656 = .ok (.iaload, 1) := by decide +kernel
theorem dL_law_657 : decode cL_law 657 = .ok (.aload_n 0, 1) := by decide +kernel
theorem dL_law_658 : decode cL_law 658 = .ok (.iload_n 3, 1) := by decide +kernel
theorem dL_law_659 : decode cL_law 659 = .ok (.iconst 3, 1) := by decide +kernel
theorem dL_law_660 : decode cL_law 660 = .ok (.iadd, 1) := by decide +kernel
theorem dL_law_661 : decode cL_law 661 = .ok (.iaload, 1) := by decide +kernel
theorem dL_law_662 : decode cL_law 662 = .ok (.invokevirtual 90, 3) := by decide +kernel
theorem dL_law_665 : decode cL_law 665 = .ok (.aload_n 2, 1) := by decide +kernel
theorem dL_law_666 : decode cL_law 666 = .ok (.aload_n 0, 1) := by decide +kernel
theorem dL_law_667 : decode cL_law 667 = .ok (.iload_n 3, 1) := by decide +kernel
theorem dL_law_668 : decode cL_law 668 = .ok (.iconst 1, 1) := by decide +kernel
theorem dL_law_669 : decode cL_law 669 = .ok (.iadd, 1) := by decide +kernel
theorem dL_law_670 : decode cL_law 670 = .ok (.iaload, 1) := by decide +kernel
theorem dL_law_671 : decode cL_law 671 = .ok (.aload_n 0, 1) := by decide +kernel
theorem dL_law_672 : decode cL_law 672 = .ok (.iload_n 3, 1) := by decide +kernel
theorem dL_law_673 : decode cL_law 673 = .ok (.iconst 2, 1) := by decide +kernel
theorem dL_law_674 : decode cL_law 674 = .ok (.iadd, 1) := by decide +kernel
theorem dL_law_675 : decode cL_law 675 = .ok (.iaload, 1) := by decide +kernel
theorem dL_law_676 : decode cL_law 676 = .ok (.aload_n 0, 1) := by decide +kernel
theorem dL_law_677 : decode cL_law 677 = .ok (.iload_n 3, 1) := by decide +kernel
theorem dL_law_678 : decode cL_law 678 = .ok (.iconst 3, 1) := by decide +kernel
theorem dL_law_679 : decode cL_law 679 = .ok (.iadd, 1) := by decide +kernel
theorem dL_law_680 : decode cL_law 680 = .ok (.iaload, 1) := by decide +kernel
theorem dL_law_681 : decode cL_law 681 = .ok (.invokevirtual 93, 3) := by decide +kernel
theorem dL_law_684 : decode cL_law 684 = .ok (.if_icmp .eq 51, 3) := by decide +kernel
theorem dL_law_687 : decode cL_law 687 = .ok (.iconst 0, 1) := by decide +kernel
theorem dL_law_688 : decode cL_law 688 = .ok (.ireturn, 1) := by decide +kernel
theorem dL_law_689 : decode cL_law 689 = .ok (.aload_n 1, 1) := by decide +kernel
theorem dL_law_690 : decode cL_law 690 = .ok (.aload_n 0, 1) := by decide +kernel
theorem dL_law_691 : decode cL_law 691 = .ok (.iload_n 3, 1) := by decide +kernel
theorem dL_law_692 : decode cL_law 692 = .ok (.iconst 1, 1) := by decide +kernel
theorem dL_law_693 : decode cL_law 693 = .ok (.iadd, 1) := by decide +kernel
theorem dL_law_694 : decode cL_law 694 = .ok (.iaload, 1) := by decide +kernel
theorem dL_law_695 : decode cL_law 695 = .ok (.aload_n 0, 1) := by decide +kernel
theorem dL_law_696 : decode cL_law 696 = .ok (.iload_n 3, 1) := by decide +kernel
theorem dL_law_697 : decode cL_law 697 = .ok (.iconst 2, 1) := by decide +kernel
theorem dL_law_698 : decode cL_law 698 = .ok (.iadd, 1) := by decide +kernel
theorem dL_law_699 : decode cL_law 699 = .ok (.iaload, 1) := by decide +kernel
theorem dL_law_700 : decode cL_law 700 = .ok (.invokevirtual 94, 3) := by decide +kernel
theorem dL_law_703 : decode cL_law 703 = .ok (.aload_n 2, 1) := by decide +kernel
theorem dL_law_704 : decode cL_law 704 = .ok (.aload_n 0, 1) := by decide +kernel
theorem dL_law_705 : decode cL_law 705 = .ok (.iload_n 3, 1) := by decide +kernel
theorem dL_law_706 : decode cL_law 706 = .ok (.iconst 1, 1) := by decide +kernel
theorem dL_law_707 : decode cL_law 707 = .ok (.iadd, 1) := by decide +kernel
theorem dL_law_708 : decode cL_law 708 = .ok (.iaload, 1) := by decide +kernel
theorem dL_law_709 : decode cL_law 709 = .ok (.aload_n 0, 1) := by decide +kernel
theorem dL_law_710 : decode cL_law 710 = .ok (.iload_n 3, 1) := by decide +kernel
theorem dL_law_711 : decode cL_law 711 = .ok (.iconst 2, 1) := by decide +kernel
theorem dL_law_712 : decode cL_law 712 = .ok (.iadd, 1) := by decide +kernel
theorem dL_law_713 : decode cL_law 713 = .ok (.iaload, 1) := by decide +kernel
theorem dL_law_714 : decode cL_law 714 = .ok (.invokevirtual 97, 3) := by decide +kernel
theorem dL_law_717 : decode cL_law 717 = .ok (.if_icmp .eq 18, 3) := by decide +kernel
theorem dL_law_720 : decode cL_law 720 = .ok (.iconst 0, 1) := by decide +kernel
theorem dL_law_721 : decode cL_law 721 = .ok (.ireturn, 1) := by decide +kernel
theorem dL_law_722 : decode cL_law 722 = .ok (.aload_n 1, 1) := by decide +kernel
theorem dL_law_723 : decode cL_law 723 = .ok (.invokevirtual 98, 3) := by decide +kernel
theorem dL_law_726 : decode cL_law 726 = .ok (.aload_n 2, 1) := by decide +kernel
theorem dL_law_727 : decode cL_law 727 = .ok (.invokevirtual 101, 3) := by decide +kernel
theorem dL_law_730 : decode cL_law 730 = .ok (.if_icmp .eq 5, 3) := by decide +kernel
theorem dL_law_733 : decode cL_law 733 = .ok (.iconst 0, 1) := by decide +kernel
theorem dL_law_734 : decode cL_law 734 = .ok (.ireturn, 1) := by decide +kernel
theorem dL_law_735 : decode cL_law 735 = .ok (.iinc 3 5, 3) := by decide +kernel
theorem dL_law_738 : decode cL_law 738 = .ok (.goto (-720), 3) := by decide +kernel
theorem dL_law_741 : decode cL_law 741 = .ok (.iconst 1, 1) := by decide +kernel
theorem dL_law_742 : decode cL_law 742 = .ok (.ireturn, 1) := by decide +kernel
theorem dJ9_floorDiv_7cf53_0 : decode cJ9_floorDiv_7cf53 0 = .ok (.iload_n 0, 1) := by decide +kernel
theorem dJ9_floorDiv_7cf53_1 : decode cJ9_floorDiv_7cf53 1 = .ok (.iload_n 1, 1) := by decide +kernel
theorem dJ9_floorDiv_7cf53_2 : decode cJ9_floorDiv_7cf53 2 = .ok (.idiv, 1) := by decide +kernel
theorem dJ9_floorDiv_7cf53_3 : decode cJ9_floorDiv_7cf53 3 = .ok (.istore_n 2, 1) := by decide +kernel
theorem dJ9_floorDiv_7cf53_4 : decode cJ9_floorDiv_7cf53 4 = .ok (.iload_n 0, 1) := by decide +kernel
theorem dJ9_floorDiv_7cf53_5 : decode cJ9_floorDiv_7cf53 5 = .ok (.iload_n 1, 1) := by decide +kernel
theorem dJ9_floorDiv_7cf53_6 : decode cJ9_floorDiv_7cf53 6 = .ok (.ixor, 1) := by decide +kernel
theorem dJ9_floorDiv_7cf53_7 : decode cJ9_floorDiv_7cf53 7 = .ok (.ifCond .ge 14, 3) := by decide +kernel
theorem dJ9_floorDiv_7cf53_10 : decode cJ9_floorDiv_7cf53 10 = .ok (.iload_n 2, 1) := by decide +kernel
theorem dJ9_floorDiv_7cf53_11 : decode cJ9_floorDiv_7cf53 11 = .ok (.iload_n 1, 1) := by decide +kernel
theorem dJ9_floorDiv_7cf53_12 : decode cJ9_floorDiv_7cf53 12 = .ok (.imul, 1) := by decide +kernel
theorem dJ9_floorDiv_7cf53_13 : decode cJ9_floorDiv_7cf53 13 = .ok (.iload_n 0, 1) := by decide +kernel
theorem dJ9_floorDiv_7cf53_14 : decode cJ9_floorDiv_7cf53 14 = .ok (.if_icmp .eq 7, 3) := by decide +kernel
theorem dJ9_floorDiv_7cf53_17 : decode cJ9_floorDiv_7cf53 17 = .ok (.iload_n 2, 1) := by decide +kernel
theorem dJ9_floorDiv_7cf53_18 : decode cJ9_floorDiv_7cf53 18 = .ok (.iconst 1, 1) := by decide +kernel
theorem dJ9_floorDiv_7cf53_19 : decode cJ9_floorDiv_7cf53 19 = .ok (.isub, 1) := by decide +kernel
theorem dJ9_floorDiv_7cf53_20 : decode cJ9_floorDiv_7cf53 20 = .ok (.ireturn, 1) := by decide +kernel
theorem dJ9_floorDiv_7cf53_21 : decode cJ9_floorDiv_7cf53 21 = .ok (.iload_n 2, 1) := by decide +kernel
theorem dJ9_floorDiv_7cf53_22 : decode cJ9_floorDiv_7cf53 22 = .ok (.ireturn, 1) := by decide +kernel
theorem dJ9_min_7cf53_0 : decode cJ9_min_7cf53 0 = .ok (.iload_n 0, 1) := by decide +kernel
theorem dJ9_min_7cf53_1 : decode cJ9_min_7cf53 1 = .ok (.iload_n 1, 1) := by decide +kernel
theorem dJ9_min_7cf53_2 : decode cJ9_min_7cf53 2 = .ok (.if_icmp .gt 7, 3) := by decide +kernel
theorem dJ9_min_7cf53_5 : decode cJ9_min_7cf53 5 = .ok (.iload_n 0, 1) := by decide +kernel
theorem dJ9_min_7cf53_6 : decode cJ9_min_7cf53 6 = .ok (.goto 4, 3) := by decide +kernel
theorem dJ9_min_7cf53_9 : decode cJ9_min_7cf53 9 = .ok (.iload_n 1, 1) := by decide +kernel
theorem dJ9_min_7cf53_10 : decode cJ9_min_7cf53 10 = .ok (.ireturn, 1) := by decide +kernel
