theorem dX7_notes_91 : decode cX7_notes 91 = .ok (.iconst 1, 1) := by decide +kernel
theorem dX7_notes_92 : decode cX7_notes 92 = .ok (.iadd, 1) := by decide +kernel
theorem dX7_notes_93 : decode cX7_notes 93 = .ok (.putfield 30, 3) := by decide +kernel
theorem dX7_notes_96 : decode cX7_notes 96 = .ok (.return_, 1) := by decide +kernel
theorem dX7_undo_0 : decode cX7_undo 0 = .ok (.aload_n 0, 1) := by decide +kernel
theorem dX7_undo_1 : decode cX7_undo 1 = .ok (.getfield 30, 3) := by decide +kernel
theorem dX7_undo_4 : decode cX7_undo 4 = .ok (.ifCond .ne 6, 3) := by decide +kernel
theorem dX7_undo_7 : decode cX7_undo 7 = .ok (.ldc 34, 2) := by decide +kernel
theorem dX7_undo_9 : decode cX7_undo 9 = .ok (.ireturn, 1) := by decide +kernel
theorem dX7_undo_10 : decode cX7_undo 10 = .ok (.aload_n 0, 1) := by decide +kernel
theorem dX7_undo_11 : decode cX7_undo 11 = .ok (.dup, 1) := by decide +kernel
theorem dX7_undo_12 : decode cX7_undo 12 = .ok (.getfield 30, 3) := by decide +kernel
theorem dX7_undo_15 : decode cX7_undo 15 = .ok (.iconst 1, 1) := by decide +kernel
theorem dX7_undo_16 : decode cX7_undo 16 = .ok (.isub, 1) := by decide +kernel
theorem dX7_undo_17 : decode cX7_undo 17 = .ok (.putfield 30, 3) := by decide +kernel
theorem dX7_undo_20 : decode cX7_undo 20 = .ok (.iconst 0, 1) := by decide +kernel
theorem dX7_undo_21 : decode cX7_undo 21 = .ok (.istore_n 1, 1) := by decide +kernel
theorem dX7_undo_22 : decode cX7_undo 22 = .ok (.iload_n 1, 1) := by decide +kernel
theorem dX7_undo_23 : decode cX7_undo 23 = .ok (.sipush 196, 3) := by decide +kernel
theorem dX7_undo_26 : decode cX7_undo 26 = .ok (.if_icmp .ge 30, 3) := by decide +kernel
theorem dX7_undo_29 : decode cX7_undo 29 = .ok (.aload_n 0, 1) := by decide +kernel
theorem dX7_undo_30 : decode cX7_undo 30 = .ok (.getfield 7, 3) := by decide +kernel
theorem dX7_undo_33 : decode cX7_undo 33 = .ok (.iload_n 1, 1) := by decide +kernel
theorem dX7_undo_34 : decode cX7_undo 34 = .ok (.aload_n 0, 1) := by decide +kernel
theorem dX7_undo_35 : decode cX7_undo 35 = .ok (.getfield 13, 3) := by decide +kernel
theorem dX7_undo_38 : decode cX7_undo 38 = .ok (.sipush 196, 3) := by decide +kernel
theorem dX7_undo_41 : decode cX7_undo 41 = .ok (.aload_n 0, 1) := by decide +kernel
theorem dX7_undo_42 : decode cX7_undo 42 = .ok (.getfield 30, 3) := by decide +kernel
theorem dX7_undo_45 : decode cX7_undo 45 = .ok (.imul, 1) := by decide +kernel
theorem dX7_undo_46 : decode cX7_undo 46 = .ok (.iload_n 1, 1) := by decide +kernel
theorem dX7_undo_47 : decode cX7_undo 47 = .ok (.iadd, 1) := by decide +kernel
theorem dX7_undo_48 : decode cX7_undo 48 = .ok (.iaload, 1) := by decide +kernel
theorem dX7_undo_49 : decode cX7_undo 49 = .ok (.iastore, 1) := by decide +kernel
theorem dX7_undo_50 : decode cX7_undo 50 = .ok (.iinc 1 1, 3) := by decide +kernel
theorem dX7_undo_53 : decode cX7_undo 53 = .ok (.goto (-31), 3) := by decide +kernel
theorem dX7_undo_56 : decode cX7_undo 56 = .ok (.aload_n 0, 1) := by decide +kernel
theorem dX7_undo_57 : decode cX7_undo 57 = .ok (.getfield 30, 3) := by decide +kernel
theorem dX7_undo_60 : decode cX7_undo 60 = .ok (.ireturn, 1) := by decide +kernel
theorem dX7_isRoom_0 : decode cX7_isRoom 0 = .ok (.iload_n 1, 1) := by decide +kernel
theorem dX7_isRoom_1 : decode cX7_isRoom 1 = .ok (.iconst 0, 1) := by decide +kernel
theorem dX7_isRoom_2 : decode cX7_isRoom 2 = .ok (.aload_n 0, 1) := by decide +kernel
theorem dX7_isRoom_3 : decode cX7_isRoom 3 = .ok (.getfield 7, 3) := by decide +kernel
theorem dX7_isRoom_6 : decode cX7_isRoom 6 = .ok (.bipush 7, 2) := by decide +kernel
theorem dX7_isRoom_8 : decode cX7_isRoom 8 = .ok (.iaload, 1) := by decide +kernel
theorem dX7_isRoom_9 : decode cX7_isRoom 9 = .ok (.iconst 1, 1) := by decide +kernel
theorem dX7_isRoom_10 : decode cX7_isRoom 10 = .ok (.isub, 1) := by decide +kernel
theorem dX7_isRoom_11 : decode cX7_isRoom 11 = .ok (.invokestatic 35, 3) := by decide +kernel
theorem dX7_isRoom_14 : decode cX7_isRoom 14 = .ok (.ireturn, 1) := by decide +kernel
theorem dX7_of_0 : decode cX7_of 0 = .ok (.aload_n 0, 1) := by decide +kernel
theorem dX7_of_1 : decode cX7_of 1 = .ok (.getfield 7, 3) := by decide +kernel
theorem dX7_of_4 : decode cX7_of 4 = .ok (.bipush 70, 2) := by decide +kernel
theorem dX7_of_6 : decode cX7_of 6 = .ok (.bipush 21, 2) := by decide +kernel
theorem dX7_of_8 : decode cX7_of 8 = .ok (.iload_n 1, 1) := by decide +kernel
theorem dX7_of_9 : decode cX7_of 9 = .ok (.imul, 1) := by decide +kernel
theorem dX7_of_10 : decode cX7_of 10 = .ok (.iadd, 1) := by decide +kernel
theorem dX7_of_11 : decode cX7_of 11 = .ok (.iload_n 2, 1) := by decide +kernel
theorem dX7_of_12 : decode cX7_of 12 = .ok (.iadd, 1) := by decide +kernel
theorem dX7_of_13 : decode cX7_of 13 = .ok (.iaload, 1) := by decide +kernel
theorem dX7_of_14 : decode cX7_of 14 = .ok (.ireturn, 1) := by decide +kernel
theorem dX7_puts_0 : decode cX7_puts 0 = .ok (.aload_n 0, 1) := by decide +kernel
theorem dX7_puts_1 : decode cX7_puts 1 = .ok (.getfield 7, 3) := by decide +kernel
theorem dX7_puts_4 : decode cX7_puts 4 = .ok (.bipush 70, 2) := by decide +kernel
theorem dX7_puts_6 : decode cX7_puts 6 = .ok (.bipush 21, 2) := by decide +kernel
theorem dX7_puts_8 : decode cX7_puts 8 = .ok (.iload_n 1, 1) := by decide +kernel
theorem dX7_puts_9 : decode cX7_puts 9 = .ok (.imul, 1) := by decide +kernel
theorem dX7_puts_10 : decode cX7_puts 10 = .ok (.iadd, 1) := by decide +kernel
theorem dX7_puts_11 : decode cX7_puts 11 = .ok (.iload_n 2, 1) := by decide +kernel
theorem dX7_puts_12 : decode cX7_puts 12 = .ok (.iadd, 1) := by decide +kernel
theorem dX7_puts_13 : decode cX7_puts 13 = .ok (.iload_n 3, 1) := by decide +kernel
theorem dX7_puts_14 : decode cX7_puts 14 = .ok (.iastore, 1) := by decide +kernel
theorem dX7_puts_15 : decode cX7_puts 15 = .ok (.return_, 1) := by decide +kernel
theorem dX7_grows_0 : decode cX7_grows 0 = .ok (.aload_n 0, 1) := by decide +kernel
theorem dX7_grows_1 : decode cX7_grows 1 = .ok (.getfield 7, 3) := by decide +kernel
theorem dX7_grows_4 : decode cX7_grows 4 = .ok (.bipush 70, 2) := by decide +kernel
theorem dX7_grows_6 : decode cX7_grows 6 = .ok (.bipush 21, 2) := by decide +kernel
theorem dX7_grows_8 : decode cX7_grows 8 = .ok (.iload_n 1, 1) := by decide +kernel
theorem dX7_grows_9 : decode cX7_grows 9 = .ok (.imul, 1) := by decide +kernel
theorem dX7_grows_10 : decode cX7_grows 10 = .ok (.iadd, 1) := by decide +kernel
theorem dX7_grows_11 : decode cX7_grows 11 = .ok (.iload_n 2, 1) := by decide +kernel
theorem dX7_grows_12 : decode cX7_grows 12 = .ok (.iadd, 1) := by decide +kernel
theorem dX7_grows_13 : decode cX7_grows 13 = .ok (.dup2, 1) := by decide +kernel
theorem dX7_grows_14 : decode cX7_grows 14 = .ok (.iaload, 1) := by decide +kernel
theorem dX7_grows_15 : decode cX7_grows 15 = .ok (.iload_n 3, 1) := by decide +kernel
theorem dX7_grows_16 : decode cX7_grows 16 = .ok (.iadd, 1) := by decide +kernel
theorem dX7_grows_17 : decode cX7_grows 17 = .ok (.iastore, 1) := by decide +kernel
theorem dX7_grows_18 : decode cX7_grows 18 = .ok (.return_, 1) := by decide +kernel
theorem dX7_degrees_0 : decode cX7_degrees 0 = .ok (.sipush 1000, 3) := by decide +kernel
theorem dX7_degrees_3 : decode cX7_degrees 3 = .ok (.iload_n 0, 1) := by decide +kernel
theorem dX7_degrees_4 : decode cX7_degrees 4 = .ok (.imul, 1) := by decide +kernel
theorem dX7_degrees_5 : decode cX7_degrees 5 = .ok (.istore_n 2, 1) := by decide +kernel
theorem dX7_degrees_6 : decode cX7_degrees 6 = .ok (.iload_n 2, 1) := by decide +kernel
theorem dX7_degrees_7 : decode cX7_degrees 7 = .ok (.ifCond .ge 17, 3) := by decide +kernel
theorem dX7_degrees_10 : decode cX7_degrees 10 = .ok (.iload_n 2, 1) := by decide +kernel
theorem dX7_degrees_11 : decode cX7_degrees 11 = .ok (.iload_n 1, 1) := by decide +kernel
theorem dX7_degrees_12 : decode cX7_degrees 12 = .ok (.irem, 1) := by decide +kernel
theorem dX7_degrees_13 : decode cX7_degrees 13 = .ok (.ifCond .eq 11, 3) := by decide +kernel
theorem dX7_degrees_16 : decode cX7_degrees 16 = .ok (.iload_n 2, 1) := by decide +kernel
theorem dX7_degrees_17 : decode cX7_degrees 17 = .ok (.iload_n 1, 1) := by decide +kernel
theorem dX7_degrees_18 : decode cX7_degrees 18 = .ok (.idiv, 1) := by decide +kernel
theorem dX7_degrees_19 : decode cX7_degrees 19 = .ok (.iconst 1, 1) := by decide +kernel
theorem dX7_degrees_20 : decode cX7_degrees 20 = .ok (.isub, 1) := by decide +kernel
theorem dX7_degrees_21 : decode cX7_degrees 21 = .ok (.goto 6, 3) := by decide +kernel
theorem dX7_degrees_24 : decode cX7_degrees 24 = .ok (.iload_n 2, 1) := by decide +kernel
theorem dX7_degrees_25 : decode cX7_degrees 25 = .ok (.iload_n 1, 1) := by decide +kernel
theorem dX7_degrees_26 : decode cX7_degrees 26 = .ok (.idiv, 1) := by decide +kernel
theorem dX7_degrees_27 : decode cX7_degrees 27 = .ok (.ireturn, 1) := by decide +kernel
theorem dX7_temperature_0 : decode cX7_temperature 0 = .ok (.aload_n 0, 1) := by decide +kernel
theorem dX7_temperature_1 : decode cX7_temperature 1 = .ok (.iload_n 1, 1) := by decide +kernel
theorem dX7_temperature_2 : decode cX7_temperature 2 = .ok (.iconst 1, 1) := by decide +kernel
theorem dX7_temperature_3 : decode cX7_temperature 3 = .ok (.invokevirtual 39, 3) := by decide +kernel
theorem dX7_temperature_6 : decode cX7_temperature 6 = .ok (.aload_n 0, 1) := by decide +kernel
theorem dX7_temperature_7 : decode cX7_temperature 7 = .ok (.iload_n 1, 1) := by decide +kernel
theorem dX7_temperature_8 : decode cX7_temperature 8 = .ok (.iconst 0, 1) := by decide +kernel
theorem dX7_temperature_9 : decode cX7_temperature 9 = .ok (.invokevirtual 39, 3) := by decide +kernel
theorem dX7_temperature_12 : decode cX7_temperature 12 = .ok (.invokestatic 43, 3) := by decide +kernel
theorem dX7_temperature_15 : decode cX7_temperature 15 = .ok (.ireturn, 1) := by decide +kernel
theorem dX7_addRoom_0 : decode cX7_addRoom 0 = .ok (.iload_n 1, 1) := by decide +kernel
theorem dX7_addRoom_1 : decode cX7_addRoom 1 = .ok (.bipush 10, 2) := by decide +kernel
theorem dX7_addRoom_3 : decode cX7_addRoom 3 = .ok (.sipush 500, 3) := by decide +kernel
theorem dX7_addRoom_6 : decode cX7_addRoom 6 = .ok (.invokestatic 35, 3) := by decide +kernel
theorem dX7_addRoom_9 : decode cX7_addRoom 9 = .ok (.ifCond .eq 47, 3) := by decide +kernel
theorem dX7_addRoom_12 : decode cX7_addRoom 12 = .ok (.iload_n 2, 1) := by decide +kernel
theorem dX7_addRoom_13 : decode cX7_addRoom 13 = .ok (.iconst 1, 1) := by decide +kernel
theorem dX7_addRoom_14 : decode cX7_addRoom 14 = .ok (.sipush 200, 3) := by decide +kernel
theorem dX7_addRoom_17 : decode cX7_addRoom 17 = .ok (.invokestatic 35, 3) := by decide +kernel
theorem dX7_addRoom_20 : decode cX7_addRoom 20 = .ok (.ifCond .eq 36, 3) := by decide +kernel
theorem dX7_addRoom_23 : decode cX7_addRoom 23 = .ok (.iload_n 3, 1) := by decide +kernel
theorem dX7_addRoom_24 : decode cX7_addRoom 24 = .ok (.iconst 0, 1) := by decide +kernel
theorem dX7_addRoom_25 : decode cX7_addRoom 25 = .ok (.bipush 50, 2) := by decide +kernel
theorem dX7_addRoom_27 : decode cX7_addRoom 27 = .ok (.invokestatic 35, 3) := by decide +kernel
theorem dX7_addRoom_30 : decode cX7_addRoom 30 = .ok (.ifCond .eq 26, 3) := by decide +kernel
theorem dX7_addRoom_33 : decode cX7_addRoom 33 = .ok (.iconst 2, 1) := by decide +kernel
theorem dX7_addRoom_34 : decode cX7_addRoom 34 = .ok (.iload_n 3, 1) := by decide +kernel
theorem dX7_addRoom_35 : decode cX7_addRoom 35 = .ok (.imul, 1) := by decide +kernel
theorem dX7_addRoom_36 : decode cX7_addRoom 36 = .ok (.iload_n 1, 1) := by decide +kernel
theorem dX7_addRoom_37 : decode cX7_addRoom 37 = .ok (.if_icmp .gt 19, 3) := by decide +kernel
theorem dX7_addRoom_40 : decode cX7_addRoom 40 = .ok (.iload 4, 2) := by decide +kernel
theorem dX7_addRoom_42 : decode cX7_addRoom 42 = .ok (.bipush (-40), 2) := by decide +kernel
theorem dX7_addRoom_44 : decode cX7_addRoom 44 = .ok (.bipush 40, 2) := by decide +kernel
theorem dX7_addRoom_46 : decode cX7_addRoom 46 = .ok (.invokestatic 35, 3) := by decide +kernel
theorem dX7_addRoom_49 : decode cX7_addRoom 49 = .ok (.ifCond .eq 7, 3) := by decide +kernel
theorem dX7_addRoom_52 : decode cX7_addRoom 52 = .ok (.iconst 1, 1) := by decide +kernel
theorem dX7_addRoom_53 : decode cX7_addRoom 53 = .ok (.goto 4, 3) := by decide +kernel
theorem dX7_addRoom_56 : decode cX7_addRoom 56 = .ok (.iconst 0, 1) := by decide +kernel
theorem dX7_addRoom_57 : decode cX7_addRoom 57 = .ok (.istore 5, 2) := by decide +kernel
theorem dX7_addRoom_59 : decode cX7_addRoom 59 = .ok (.iload 5, 2) := by decide +kernel
theorem dX7_addRoom_61 : decode cX7_addRoom 61 = .ok (.ifCond .ne 6, 3) := by decide +kernel
theorem dX7_addRoom_64 : decode cX7_addRoom 64 = .ok (.ldc 46, 2) := by decide +kernel
theorem dX7_addRoom_66 : decode cX7_addRoom 66 = .ok (.ireturn, 1) := by decide +kernel
theorem dX7_addRoom_67 : decode cX7_addRoom 67 = .ok (.aload_n 0, 1) := by decide +kernel
theorem dX7_addRoom_68 : decode cX7_addRoom 68 = .ok (.getfield 7, 3) := by decide +kernel
theorem dX7_addRoom_71 : decode cX7_addRoom 71 = .ok (.bipush 7, 2) := by decide +kernel
theorem dX7_addRoom_73 : decode cX7_addRoom 73 = .ok (.iaload, 1) := by decide +kernel
theorem dX7_addRoom_74 : decode cX7_addRoom 74 = .ok (.bipush 6, 2) := by decide +kernel
theorem dX7_addRoom_76 : decode cX7_addRoom 76 = .ok (.if_icmp .ne 6, 3) := by decide +kernel
theorem dX7_addRoom_79 : decode cX7_addRoom 79 = .ok (.ldc 47, 2) := by decide +kernel
theorem dX7_addRoom_81 : decode cX7_addRoom 81 = .ok (.ireturn, 1) := by decide +kernel
theorem dX7_addRoom_82 : decode cX7_addRoom 82 = .ok (.aload_n 0, 1) := by decide +kernel
theorem dX7_addRoom_83 : decode cX7_addRoom 83 = .ok (.invokevirtual 48, 3) := by decide +kernel
theorem dX7_addRoom_86 : decode cX7_addRoom 86 = .ok (.aload_n 0, 1) := by decide +kernel
theorem dX7_addRoom_87 : decode cX7_addRoom 87 = .ok (.getfield 7, 3) := by decide +kernel
theorem dX7_addRoom_90 : decode cX7_addRoom 90 = .ok (.bipush 7, 2) := by decide +kernel
theorem dX7_addRoom_92 : decode cX7_addRoom 92 = .ok (.iaload, 1) := by decide +kernel
theorem dX7_addRoom_93 : decode cX7_addRoom 93 = .ok (.istore 6, 2) := by decide +kernel
theorem dX7_addRoom_95 : decode cX7_addRoom 95 = .ok (.aload_n 0, 1) := by decide +kernel
theorem dX7_addRoom_96 : decode cX7_addRoom 96 = .ok (.getfield 7, 3) := by decide +kernel
theorem dX7_addRoom_99 : decode cX7_addRoom 99 = .ok (.bipush 7, 2) := by decide +kernel
theorem dX7_addRoom_101 : decode cX7_addRoom 101 = .ok (.dup2, 1) := by decide +kernel
theorem dX7_addRoom_102 : decode cX7_addRoom 102 = .ok (.iaload, 1) := by decide +kernel
theorem dX7_addRoom_103 : decode cX7_addRoom 103 = .ok (.iconst 1, 1) := by decide +kernel
theorem dX7_addRoom_104 : decode cX7_addRoom 104 = .ok (.iadd, 1) := by decide +kernel
theorem dX7_addRoom_105 : decode cX7_addRoom 105 = .ok (.iastore, 1) := by decide +kernel
theorem dX7_addRoom_106 : decode cX7_addRoom 106 = .ok (.aload_n 0, 1) := by decide +kernel
theorem dX7_addRoom_107 : decode cX7_addRoom 107 = .ok (.iload 6, 2) := by decide +kernel
theorem dX7_addRoom_109 : decode cX7_addRoom 109 = .ok (.iconst 0, 1) := by decide +kernel
theorem dX7_addRoom_110 : decode cX7_addRoom 110 = .ok (.iload_n 1, 1) := by decide +kernel
theorem dX7_addRoom_111 : decode cX7_addRoom 111 = .ok (.invokevirtual 51, 3) := by decide +kernel
theorem dX7_addRoom_114 : decode cX7_addRoom 114 = .ok (.aload_n 0, 1) := by decide +kernel
theorem dX7_addRoom_115 : decode cX7_addRoom 115 = .ok (.iload 6, 2) := by decide +kernel
theorem dX7_addRoom_117 : decode cX7_addRoom 117 = .ok (.iconst 1, 1) := by decide +kernel
theorem dX7_addRoom_118 : decode cX7_addRoom 118 = .ok (.iload_n 1, 1) := by decide +kernel
theorem dX7_addRoom_119 : decode cX7_addRoom 119 = .ok (.iload 4, 2) := by decide +kernel
theorem dX7_addRoom_121 : decode cX7_addRoom 121 = .ok (.imul, 1) := by decide +kernel
theorem dX7_addRoom_122 : decode cX7_addRoom 122 = .ok (.invokevirtual 51, 3) := by decide +kernel
theorem dX7_addRoom_125 : decode cX7_addRoom 125 = .ok (.aload_n 0, 1) := by decide +kernel
theorem dX7_addRoom_126 : decode cX7_addRoom 126 = .ok (.iload 6, 2) := by decide +kernel
theorem dX7_addRoom_128 : decode cX7_addRoom 128 = .ok (.iconst 2, 1) := by decide +kernel
theorem dX7_addRoom_129 : decode cX7_addRoom 129 = .ok (.iload_n 2, 1) := by decide +kernel
theorem dX7_addRoom_130 : decode cX7_addRoom 130 = .ok (.invokevirtual 51, 3) := by decide +kernel
theorem dX7_addRoom_133 : decode cX7_addRoom 133 = .ok (.aload_n 0, 1) := by decide +kernel
theorem dX7_addRoom_134 : decode cX7_addRoom 134 = .ok (.iload 6, 2) := by decide +kernel
theorem dX7_addRoom_136 : decode cX7_addRoom 136 = .ok (.iconst 3, 1) := by decide +kernel
theorem dX7_addRoom_137 : decode cX7_addRoom 137 = .ok (.iload_n 3, 1) := by decide +kernel
theorem dX7_addRoom_138 : decode cX7_addRoom 138 = .ok (.invokevirtual 51, 3) := by decide +kernel
theorem dX7_addRoom_141 : decode cX7_addRoom 141 = .ok (.aload_n 0, 1) := by decide +kernel
theorem dX7_addRoom_142 : decode cX7_addRoom 142 = .ok (.iload 6, 2) := by decide +kernel
theorem dX7_addRoom_144 : decode cX7_addRoom 144 = .ok (.iconst 4, 1) := by decide +kernel
theorem dX7_addRoom_145 : decode cX7_addRoom 145 = .ok (.sipush 20000, 3) := by decide +kernel
theorem dX7_addRoom_148 : decode cX7_addRoom 148 = .ok (.invokevirtual 51, 3) := by decide +kernel
theorem dX7_addRoom_151 : decode cX7_addRoom 151 = .ok (.aload_n 0, 1) := by decide +kernel
theorem dX7_addRoom_152 : decode cX7_addRoom 152 = .ok (.iload 6, 2) := by decide +kernel
theorem dX7_addRoom_154 : decode cX7_addRoom 154 = .ok (.iconst 5, 1) := by decide +kernel
theorem dX7_addRoom_155 : decode cX7_addRoom 155 = .ok (.sipush 1000, 3) := by decide +kernel
theorem dX7_addRoom_158 : decode cX7_addRoom 158 = .ok (.invokevirtual 51, 3) := by decide +kernel
theorem dX7_addRoom_161 : decode cX7_addRoom 161 = .ok (.aload_n 0, 1) := by decide +kernel
theorem dX7_addRoom_162 : decode cX7_addRoom 162 = .ok (.iload 6, 2) := by decide +kernel
theorem dX7_addRoom_164 : decode cX7_addRoom 164 = .ok (.bipush 6, 2) := by decide +kernel
theorem dX7_addRoom_166 : decode cX7_addRoom 166 = .ok (.sipush 1000, 3) := by decide +kernel
theorem dX7_addRoom_169 : decode cX7_addRoom 169 = .ok (.iload 4, 2) := by decide +kernel
theorem dX7_addRoom_171 : decode cX7_addRoom 171 = .ok (.imul, 1) := by decide +kernel
theorem dX7_addRoom_172 : decode cX7_addRoom 172 = .ok (.invokevirtual 51, 3) := by decide +kernel
theorem dX7_addRoom_175 : decode cX7_addRoom 175 = .ok (.aload_n 0, 1) := by decide +kernel
theorem dX7_addRoom_176 : decode cX7_addRoom 176 = .ok (.iload 6, 2) := by decide +kernel
theorem dX7_addRoom_178 : decode cX7_addRoom 178 = .ok (.bipush 15, 2) := by decide +kernel
theorem dX7_addRoom_180 : decode cX7_addRoom 180 = .ok (.ldc 55, 2) := by decide +kernel
theorem dX7_addRoom_182 : decode cX7_addRoom 182 = .ok (.invokevirtual 51, 3) := by decide +kernel
theorem dX7_addRoom_185 : decode cX7_addRoom 185 = .ok (.aload_n 0, 1) := by decide +kernel
theorem dX7_addRoom_186 : decode cX7_addRoom 186 = .ok (.iload 6, 2) := by decide +kernel
theorem dX7_addRoom_188 : decode cX7_addRoom 188 = .ok (.bipush 16, 2) := by decide +kernel
theorem dX7_addRoom_190 : decode cX7_addRoom 190 = .ok (.iload_n 1, 1) := by decide +kernel
theorem dX7_addRoom_191 : decode cX7_addRoom 191 = .ok (.iload 4, 2) := by decide +kernel
theorem dX7_addRoom_193 : decode cX7_addRoom 193 = .ok (.imul, 1) := by decide +kernel
theorem dX7_addRoom_194 : decode cX7_addRoom 194 = .ok (.invokevirtual 51, 3) := by decide +kernel
theorem dX7_addRoom_197 : decode cX7_addRoom 197 = .ok (.iload 6, 2) := by decide +kernel
theorem dX7_addRoom_199 : decode cX7_addRoom 199 = .ok (.ireturn, 1) := by decide +kernel
theorem dX7_areRooms_0 : decode cX7_areRooms 0 = .ok (.aload_n 0, 1) := by decide +kernel
theorem dX7_areRooms_1 : decode cX7_areRooms 1 = .ok (.iload_n 1, 1) := by decide +kernel
theorem dX7_areRooms_2 : decode cX7_areRooms 2 = .ok (.invokevirtual 56, 3) := by decide +kernel
theorem dX7_areRooms_5 : decode cX7_areRooms 5 = .ok (.ifCond .eq 20, 3) := by decide +kernel
theorem dX7_areRooms_8 : decode cX7_areRooms 8 = .ok (.aload_n 0, 1) := by decide +kernel
theorem dX7_areRooms_9 : decode cX7_areRooms 9 = .ok (.iload_n 2, 1) := by decide +kernel
theorem dX7_areRooms_10 : decode cX7_areRooms 10 = .ok (.invokevirtual 56, 3) := by decide +kernel
theorem dX7_areRooms_13 : decode cX7_areRooms 13 = .ok (.ifCond .eq 12, 3) := by decide +kernel
theorem dX7_areRooms_16 : decode cX7_areRooms 16 = .ok (.iload_n 1, 1) := by decide +kernel
theorem dX7_areRooms_17 : decode cX7_areRooms 17 = .ok (.iload_n 2, 1) := by decide +kernel
theorem dX7_areRooms_18 : decode cX7_areRooms 18 = .ok (.if_icmp .eq 7, 3) := by decide +kernel
theorem dX7_areRooms_21 : decode cX7_areRooms 21 = .ok (.iconst 1, 1) := by decide +kernel
theorem dX7_areRooms_22 : decode cX7_areRooms 22 = .ok (.goto 4, 3) := by decide +kernel
theorem dX7_areRooms_25 : decode cX7_areRooms 25 = .ok (.iconst 0, 1) := by decide +kernel
theorem dX7_areRooms_26 : decode cX7_areRooms 26 = .ok (.ireturn, 1) := by decide +kernel
theorem dX7_drain_0 : decode cX7_drain 0 = .ok (.aload_n 0, 1) := by decide +kernel
theorem dX7_drain_1 : decode cX7_drain 1 = .ok (.iload_n 1, 1) := by decide +kernel
theorem dX7_drain_2 : decode cX7_drain 2 = .ok (.iconst 3, 1) := by decide +kernel
theorem dX7_drain_3 : decode cX7_drain 3 = .ok (.invokevirtual 39, 3) := by decide +kernel
theorem dX7_drain_6 : decode cX7_drain 6 = .ok (.istore_n 2, 1) := by decide +kernel
theorem dX7_drain_7 : decode cX7_drain 7 = .ok (.iconst 0, 1) := by decide +kernel
theorem dX7_drain_8 : decode cX7_drain 8 = .ok (.istore_n 3, 1) := by decide +kernel
theorem dX7_drain_9 : decode cX7_drain 9 = .ok (.iload_n 3, 1) := by decide +kernel
theorem dX7_drain_10 : decode cX7_drain 10 = .ok (.bipush 6, 2) := by decide +kernel
theorem dX7_drain_12 : decode cX7_drain 12 = .ok (.if_icmp .ge 26, 3) := by decide +kernel
theorem dX7_drain_15 : decode cX7_drain 15 = .ok (.iload_n 2, 1) := by decide +kernel
theorem dX7_drain_16 : decode cX7_drain 16 = .ok (.aload_n 0, 1) := by decide +kernel
theorem dX7_drain_17 : decode cX7_drain 17 = .ok (.getfield 7, 3) := by decide +kernel
theorem dX7_drain_20 : decode cX7_drain 20 = .ok (.bipush 34, 2) := by decide +kernel
theorem dX7_drain_22 : decode cX7_drain 22 = .ok (.bipush 6, 2) := by decide +kernel
theorem dX7_drain_24 : decode cX7_drain 24 = .ok (.iload_n 1, 1) := by decide +kernel
theorem dX7_drain_25 : decode cX7_drain 25 = .ok (.imul, 1) := by decide +kernel
theorem dX7_drain_26 : decode cX7_drain 26 = .ok (.iadd, 1) := by decide +kernel
theorem dX7_drain_27 : decode cX7_drain 27 = .ok (.iload_n 3, 1) := by decide +kernel
theorem dX7_drain_28 : decode cX7_drain 28 = .ok (.iadd, 1) := by decide +kernel
theorem dX7_drain_29 : decode cX7_drain 29 = .ok (.iaload, 1) := by decide +kernel
theorem dX7_drain_30 : decode cX7_drain 30 = .ok (.iadd, 1) := by decide +kernel
theorem dX7_drain_31 : decode cX7_drain 31 = .ok (.istore_n 2, 1) := by decide +kernel
theorem dX7_drain_32 : decode cX7_drain 32 = .ok (.iinc 3 1, 3) := by decide +kernel
theorem dX7_drain_35 : decode cX7_drain 35 = .ok (.goto (-26), 3) := by decide +kernel
theorem dX7_drain_38 : decode cX7_drain 38 = .ok (.iload_n 2, 1) := by decide +kernel
theorem dX7_drain_39 : decode cX7_drain 39 = .ok (.ireturn, 1) := by decide +kernel
theorem dX7_isTooMuch_0 : decode cX7_isTooMuch 0 = .ok (.iconst 2, 1) := by decide +kernel
theorem dX7_isTooMuch_1 : decode cX7_isTooMuch 1 = .ok (.aload_n 0, 1) := by decide +kernel
theorem dX7_isTooMuch_2 : decode cX7_isTooMuch 2 = .ok (.iload_n 1, 1) := by decide +kernel
theorem dX7_isTooMuch_3 : decode cX7_isTooMuch 3 = .ok (.invokevirtual 60, 3) := by decide +kernel
theorem dX7_isTooMuch_6 : decode cX7_isTooMuch 6 = .ok (.iload_n 2, 1) := by decide +kernel
theorem dX7_isTooMuch_7 : decode cX7_isTooMuch 7 = .ok (.iadd, 1) := by decide +kernel
theorem dX7_isTooMuch_8 : decode cX7_isTooMuch 8 = .ok (.imul, 1) := by decide +kernel
theorem dX7_isTooMuch_9 : decode cX7_isTooMuch 9 = .ok (.aload_n 0, 1) := by decide +kernel
theorem dX7_isTooMuch_10 : decode cX7_isTooMuch 10 = .ok (.iload_n 1, 1) := by decide +kernel
theorem dX7_isTooMuch_11 : decode cX7_isTooMuch 11 = .ok (.iconst 0, 1) := by decide +kernel
theorem dX7_isTooMuch_12 : decode cX7_isTooMuch 12 = .ok (.invokevirtual 39, 3) := by decide +kernel
theorem dX7_isTooMuch_15 : decode cX7_isTooMuch 15 = .ok (.if_icmp .le 7, 3) := by decide +kernel
theorem dX7_isTooMuch_18 : decode cX7_isTooMuch 18 = .ok (.iconst 1, 1) := by decide +kernel
theorem dX7_isTooMuch_19 : decode cX7_isTooMuch 19 = .ok (.goto 4, 3) := by decide +kernel
theorem dX7_isTooMuch_22 : decode cX7_isTooMuch 22 = .ok (.iconst 0, 1) := by decide +kernel
theorem dX7_isTooMuch_23 : decode cX7_isTooMuch 23 = .ok (.ireturn, 1) := by decide +kernel
theorem dX7_setLink_0 : decode cX7_setLink 0 = .ok (.aload_n 0, 1) := by decide +kernel
theorem dX7_setLink_1 : decode cX7_setLink 1 = .ok (.iload_n 1, 1) := by decide +kernel
theorem dX7_setLink_2 : decode cX7_setLink 2 = .ok (.iload_n 2, 1) := by decide +kernel
theorem dX7_setLink_3 : decode cX7_setLink 3 = .ok (.invokevirtual 64, 3) := by decide +kernel
theorem dX7_setLink_6 : decode cX7_setLink 6 = .ok (.ifCond .eq 13, 3) := by decide +kernel
theorem dX7_setLink_9 : decode cX7_setLink 9 = .ok (.iload_n 3, 1) := by decide +kernel
theorem dX7_setLink_10 : decode cX7_setLink 10 = .ok (.iconst 0, 1) := by decide +kernel
theorem dX7_setLink_11 : decode cX7_setLink 11 = .ok (.bipush 50, 2) := by decide +kernel
theorem dX7_setLink_13 : decode cX7_setLink 13 = .ok (.invokestatic 35, 3) := by decide +kernel
theorem dX7_setLink_16 : decode cX7_setLink 16 = .ok (.ifCond .ne 6, 3) := by decide +kernel
theorem dX7_setLink_19 : decode cX7_setLink 19 = .ok (.ldc 46, 2) := by decide +kernel
theorem dX7_setLink_21 : decode cX7_setLink 21 = .ok (.ireturn, 1) := by decide +kernel
theorem dX7_setLink_22 : decode cX7_setLink 22 = .ok (.aload_n 0, 1) := by decide +kernel
theorem dX7_setLink_23 : decode cX7_setLink 23 = .ok (.getfield 7, 3) := by decide +kernel
theorem dX7_setLink_26 : decode cX7_setLink 26 = .ok (.bipush 34, 2) := by decide +kernel
theorem dX7_setLink_28 : decode cX7_setLink 28 = .ok (.bipush 6, 2) := by decide +kernel
theorem dX7_setLink_30 : decode cX7_setLink 30 = .ok (.iload_n 1, 1) := by decide +kernel
theorem dX7_setLink_31 : decode cX7_setLink 31 = .ok (.imul, 1) := by decide +kernel
theorem dX7_setLink_32 : decode cX7_setLink 32 = .ok (.iadd, 1) := by decide +kernel
theorem dX7_setLink_33 : decode cX7_setLink 33 = .ok (.iload_n 2, 1) := by decide +kernel
theorem dX7_setLink_34 : decode cX7_setLink 34 = .ok (.iadd, 1) := by decide +kernel
theorem dX7_setLink_35 : decode cX7_setLink 35 = .ok (.iaload, 1) := by decide +kernel
theorem dX7_setLink_36 : decode cX7_setLink 36 = .ok (.istore 4, 2) := by decide +kernel
theorem dX7_setLink_38 : decode cX7_setLink 38 = .ok (.aload_n 0, 1) := by decide +kernel
theorem dX7_setLink_39 : decode cX7_setLink 39 = .ok (.iload_n 1, 1) := by decide +kernel
theorem dX7_setLink_40 : decode cX7_setLink 40 = .ok (.iload_n 3, 1) := by decide +kernel
theorem dX7_setLink_41 : decode cX7_setLink 41 = .ok (.iload 4, 2) := by decide +kernel
theorem dX7_setLink_43 : decode cX7_setLink 43 = .ok (.isub, 1) := by decide +kernel
theorem dX7_setLink_44 : decode cX7_setLink 44 = .ok (.invokevirtual 68, 3) := by decide +kernel
theorem dX7_setLink_47 : decode cX7_setLink 47 = .ok (.ifCond .ne 15, 3) := by decide +kernel
theorem dX7_setLink_50 : decode cX7_setLink 50 = .ok (.aload_n 0, 1) := by decide +kernel
theorem dX7_setLink_51 : decode cX7_setLink 51 = .ok (.iload_n 2, 1) := by decide +kernel
theorem dX7_setLink_52 : decode cX7_setLink 52 = .ok (.iload_n 3, 1) := by decide +kernel
theorem dX7_setLink_53 : decode cX7_setLink 53 = .ok (.iload 4, 2) := by decide +kernel
theorem dX7_setLink_55 : decode cX7_setLink 55 = .ok (.isub, 1) := by decide +kernel
theorem dX7_setLink_56 : decode cX7_setLink 56 = .ok (.invokevirtual 68, 3) := by decide +kernel
theorem dX7_setLink_59 : decode cX7_setLink 59 = .ok (.ifCond .eq 6, 3) := by decide +kernel
theorem dX7_setLink_62 : decode cX7_setLink 62 = .ok (.ldc 34, 2) := by decide +kernel
theorem dX7_setLink_64 : decode cX7_setLink 64 = .ok (.ireturn, 1) := by decide +kernel
theorem dX7_setLink_65 : decode cX7_setLink 65 = .ok (.aload_n 0, 1) := by decide +kernel
theorem dX7_setLink_66 : decode cX7_setLink 66 = .ok (.invokevirtual 48, 3) := by decide +kernel
theorem dX7_setLink_69 : decode cX7_setLink 69 = .ok (.aload_n 0, 1) := by decide +kernel
theorem dX7_setLink_70 : decode cX7_setLink 70 = .ok (.getfield 7, 3) := by decide +kernel
theorem dX7_setLink_73 : decode cX7_setLink 73 = .ok (.bipush 34, 2) := by decide +kernel
theorem dX7_setLink_75 : decode cX7_setLink 75 = .ok (.bipush 6, 2) := by decide +kernel
theorem dX7_setLink_77 : decode cX7_setLink 77 = .ok (.iload_n 1, 1) := by decide +kernel
theorem dX7_setLink_78 : decode cX7_setLink 78 = .ok (.imul, 1) := by decide +kernel
theorem dX7_setLink_79 : decode cX7_setLink 79 = .ok (.iadd, 1) := by decide +kernel
theorem dX7_setLink_80 : decode cX7_setLink 80 = .ok (.iload_n 2, 1) := by decide +kernel
theorem dX7_setLink_81 : decode cX7_setLink 81 = .ok (.iadd, 1) := by decide +kernel
theorem dX7_setLink_82 : decode cX7_setLink 82 = .ok (.iload_n 3, 1) := by decide +kernel
theorem dX7_setLink_83 : decode cX7_setLink 83 = .ok (.iastore, 1) := by decide +kernel
theorem dX7_setLink_84 : decode cX7_setLink 84 = .ok (.aload_n 0, 1) := by decide +kernel
theorem dX7_setLink_85 : decode cX7_setLink 85 = .ok (.getfield 7, 3) := by decide +kernel
theorem dX7_setLink_88 : decode cX7_setLink 88 = .ok (.bipush 34, 2) := by decide +kernel
theorem dX7_setLink_90 : decode cX7_setLink 90 = .ok (.bipush 6, 2) := by decide +kernel
theorem dX7_setLink_92 : decode cX7_setLink 92 = .ok (.iload_n 2, 1) := by decide +kernel
theorem dX7_setLink_93 : decode cX7_setLink 93 = .ok (.imul, 1) := by decide +kernel
theorem dX7_setLink_94 : decode cX7_setLink 94 = .ok (.iadd, 1) := by decide +kernel
theorem dX7_setLink_95 : decode cX7_setLink 95 = .ok (.iload_n 1, 1) := by decide +kernel
theorem dX7_setLink_96 : decode cX7_setLink 96 = .ok (.iadd, 1) := by decide +kernel
theorem dX7_setLink_97 : decode cX7_setLink 97 = .ok (.iload_n 3, 1) := by decide +kernel
theorem dX7_setLink_98 : decode cX7_setLink 98 = .ok (.iastore, 1) := by decide +kernel
theorem dX7_setLink_99 : decode cX7_setLink 99 = .ok (.iload 4, 2) := by decide +kernel
theorem dX7_setLink_101 : decode cX7_setLink 101 = .ok (.ireturn, 1) := by decide +kernel
theorem dX7_link_0 : decode cX7_link 0 = .ok (.aload_n 0, 1) := by decide +kernel
theorem dX7_link_1 : decode cX7_link 1 = .ok (.iload_n 1, 1) := by decide +kernel
theorem dX7_link_2 : decode cX7_link 2 = .ok (.iload_n 2, 1) := by decide +kernel
theorem dX7_link_3 : decode cX7_link 3 = .ok (.invokevirtual 64, 3) := by decide +kernel
theorem dX7_link_6 : decode cX7_link 6 = .ok (.ifCond .eq 20, 3) := by decide +kernel
theorem dX7_link_9 : decode cX7_link 9 = .ok (.aload_n 0, 1) := by decide +kernel
theorem dX7_link_10 : decode cX7_link 10 = .ok (.getfield 7, 3) := by decide +kernel
theorem dX7_link_13 : decode cX7_link 13 = .ok (.bipush 34, 2) := by decide +kernel
theorem dX7_link_15 : decode cX7_link 15 = .ok (.bipush 6, 2) := by decide +kernel
theorem dX7_link_17 : decode cX7_link 17 = .ok (.iload_n 1, 1) := by decide +kernel
theorem dX7_link_18 : decode cX7_link 18 = .ok (.imul, 1) := by decide +kernel
theorem dX7_link_19 : decode cX7_link 19 = .ok (.iadd, 1) := by decide +kernel
theorem dX7_link_20 : decode cX7_link 20 = .ok (.iload_n 2, 1) := by decide +kernel
theorem dX7_link_21 : decode cX7_link 21 = .ok (.iadd, 1) := by decide +kernel
theorem dX7_link_22 : decode cX7_link 22 = .ok (.iaload, 1) := by decide +kernel
theorem dX7_link_23 : decode cX7_link 23 = .ok (.goto 5, 3) := by decide +kernel
theorem dX7_link_26 : decode cX7_link 26 = .ok (.ldc 46, 2) := by decide +kernel
theorem dX7_link_28 : decode cX7_link 28 = .ok (.ireturn, 1) := by decide +kernel
theorem dX7_setThermostat_0 : decode cX7_setThermostat 0 = .ok (.aload_n 0, 1) := by decide +kernel
theorem dX7_setThermostat_1 : decode cX7_setThermostat 1 = .ok (.iload_n 1, 1) := by decide +kernel
theorem dX7_setThermostat_2 : decode cX7_setThermostat 2 = .ok (.invokevirtual 56, 3) := by decide +kernel
theorem dX7_setThermostat_5 : decode cX7_setThermostat 5 = .ok (.ifCond .eq 27, 3) := by decide +kernel
theorem dX7_setThermostat_8 : decode cX7_setThermostat 8 = .ok (.iload_n 2, 1) := by decide +kernel
theorem dX7_setThermostat_9 : decode cX7_setThermostat 9 = .ok (.sipush 5000, 3) := by decide +kernel
theorem dX7_setThermostat_12 : decode cX7_setThermostat 12 = .ok (.ldc 71, 2) := by decide +kernel
theorem dX7_setThermostat_14 : decode cX7_setThermostat 14 = .ok (.invokestatic 35, 3) := by decide +kernel
theorem dX7_setThermostat_17 : decode cX7_setThermostat 17 = .ok (.ifCond .eq 15, 3) := by decide +kernel
theorem dX7_setThermostat_20 : decode cX7_setThermostat 20 = .ok (.iload_n 3, 1) := by decide +kernel
theorem dX7_setThermostat_21 : decode cX7_setThermostat 21 = .ok (.bipush 100, 2) := by decide +kernel
theorem dX7_setThermostat_23 : decode cX7_setThermostat 23 = .ok (.sipush 5000, 3) := by decide +kernel
theorem dX7_setThermostat_26 : decode cX7_setThermostat 26 = .ok (.invokestatic 35, 3) := by decide +kernel
theorem dX7_setThermostat_29 : decode cX7_setThermostat 29 = .ok (.ifCond .ne 6, 3) := by decide +kernel
theorem dX7_setThermostat_32 : decode cX7_setThermostat 32 = .ok (.ldc 46, 2) := by decide +kernel
theorem dX7_setThermostat_34 : decode cX7_setThermostat 34 = .ok (.ireturn, 1) := by decide +kernel
theorem dX7_setThermostat_35 : decode cX7_setThermostat 35 = .ok (.aload_n 0, 1) := by decide +kernel
theorem dX7_setThermostat_36 : decode cX7_setThermostat 36 = .ok (.invokevirtual 48, 3) := by decide +kernel
theorem dX7_setThermostat_39 : decode cX7_setThermostat 39 = .ok (.aload_n 0, 1) := by decide +kernel
theorem dX7_setThermostat_40 : decode cX7_setThermostat 40 = .ok (.iload_n 1, 1) := by decide +kernel
theorem dX7_setThermostat_41 : decode cX7_setThermostat 41 = .ok (.iconst 4, 1) := by decide +kernel
theorem dX7_setThermostat_42 : decode cX7_setThermostat 42 = .ok (.invokevirtual 39, 3) := by decide +kernel
theorem dX7_setThermostat_45 : decode cX7_setThermostat 45 = .ok (.iload_n 2, 1) := by decide +kernel
theorem dX7_setThermostat_46 : decode cX7_setThermostat 46 = .ok (.if_icmp .ne 17, 3) := by decide +kernel
theorem dX7_setThermostat_49 : decode cX7_setThermostat 49 = .ok (.aload_n 0, 1) := by decide +kernel
theorem dX7_setThermostat_50 : decode cX7_setThermostat 50 = .ok (.iload_n 1, 1) := by decide +kernel
theorem dX7_setThermostat_51 : decode cX7_setThermostat 51 = .ok (.iconst 5, 1) := by decide +kernel
theorem dX7_setThermostat_52 : decode cX7_setThermostat 52 = .ok (.invokevirtual 39, 3) := by decide +kernel
theorem dX7_setThermostat_55 : decode cX7_setThermostat 55 = .ok (.iload_n 3, 1) := by decide +kernel
theorem dX7_setThermostat_56 : decode cX7_setThermostat 56 = .ok (.if_icmp .ne 7, 3) := by decide +kernel
theorem dX7_setThermostat_59 : decode cX7_setThermostat 59 = .ok (.iconst 1, 1) := by decide +kernel
theorem dX7_setThermostat_60 : decode cX7_setThermostat 60 = .ok (.goto 4, 3) := by decide +kernel
theorem dX7_setThermostat_63 : decode cX7_setThermostat 63 = .ok (.iconst 0, 1) := by decide +kernel
theorem dX7_setThermostat_64 : decode cX7_setThermostat 64 = .ok (.istore 4, 2) := by decide +kernel
theorem dX7_setThermostat_66 : decode cX7_setThermostat 66 = .ok (.aload_n 0, 1) := by decide +kernel
theorem dX7_setThermostat_67 : decode cX7_setThermostat 67 = .ok (.iload_n 1, 1) := by decide +kernel
theorem dX7_setThermostat_68 : decode cX7_setThermostat 68 = .ok (.iconst 4, 1) := by decide +kernel
theorem dX7_setThermostat_69 : decode cX7_setThermostat 69 = .ok (.iload_n 2, 1) := by decide +kernel
theorem dX7_setThermostat_70 : decode cX7_setThermostat 70 = .ok (.invokevirtual 51, 3) := by decide +kernel
theorem dX7_setThermostat_73 : decode cX7_setThermostat 73 = .ok (.aload_n 0, 1) := by decide +kernel
theorem dX7_setThermostat_74 : decode cX7_setThermostat 74 = .ok (.iload_n 1, 1) := by decide +kernel
theorem dX7_setThermostat_75 : decode cX7_setThermostat 75 = .ok (.iconst 5, 1) := by decide +kernel
theorem dX7_setThermostat_76 : decode cX7_setThermostat 76 = .ok (.iload_n 3, 1) := by decide +kernel
theorem dX7_setThermostat_77 : decode cX7_setThermostat 77 = .ok (.invokevirtual 51, 3) := by decide +kernel
theorem dX7_setThermostat_80 : decode cX7_setThermostat 80 = .ok (.iload 4, 2) := by decide +kernel
theorem dX7_setThermostat_82 : decode cX7_setThermostat 82 = .ok (.ifCond .eq 7, 3) := by decide +kernel
theorem dX7_setThermostat_85 : decode cX7_setThermostat 85 = .ok (.iconst 0, 1) := by decide +kernel
theorem dX7_setThermostat_86 : decode cX7_setThermostat 86 = .ok (.goto 4, 3) := by decide +kernel
theorem dX7_setThermostat_89 : decode cX7_setThermostat 89 = .ok (.iconst 1, 1) := by decide +kernel
theorem dX7_setThermostat_90 : decode cX7_setThermostat 90 = .ok (.ireturn, 1) := by decide +kernel
theorem dX7_isNumber_0 : decode cX7_isNumber 0 = .ok (.iload_n 0, 1) := by decide +kernel
theorem dX7_isNumber_1 : decode cX7_isNumber 1 = .ok (.tableswitch 102 0 6 #[43, 51, 60, 68, 76, 84, 94], 43) := by decide +kernel
theorem dX7_isNumber_44 : decode cX7_isNumber 44 = .ok (.iload_n 1, 1) := by decide +kernel
theorem dX7_isNumber_45 : decode cX7_isNumber 45 = .ok (.iconst 1, 1) := by decide +kernel
theorem dX7_isNumber_46 : decode cX7_isNumber 46 = .ok (.bipush 100, 2) := by decide +kernel
theorem dX7_isNumber_48 : decode cX7_isNumber 48 = .ok (.invokestatic 35, 3) := by decide +kernel
theorem dX7_isNumber_51 : decode cX7_isNumber 51 = .ok (.ireturn, 1) := by decide +kernel
theorem dX7_isNumber_52 : decode cX7_isNumber 52 = .ok (.iload_n 1, 1) := by decide +kernel
theorem dX7_isNumber_53 : decode cX7_isNumber 53 = .ok (.iconst 1, 1) := by decide +kernel
theorem dX7_isNumber_54 : decode cX7_isNumber 54 = .ok (.sipush 9999, 3) := by decide +kernel
theorem dX7_isNumber_57 : decode cX7_isNumber 57 = .ok (.invokestatic 35, 3) := by decide +kernel
theorem dX7_isNumber_60 : decode cX7_isNumber 60 = .ok (.ireturn, 1) := by decide +kernel
theorem dX7_isNumber_61 : decode cX7_isNumber 61 = .ok (.iload_n 1, 1) := by decide +kernel
theorem dX7_isNumber_62 : decode cX7_isNumber 62 = .ok (.iconst 1, 1) := by decide +kernel
theorem dX7_isNumber_63 : decode cX7_isNumber 63 = .ok (.bipush 50, 2) := by decide +kernel
theorem dX7_isNumber_65 : decode cX7_isNumber 65 = .ok (.invokestatic 35, 3) := by decide +kernel
theorem dX7_isNumber_68 : decode cX7_isNumber 68 = .ok (.ireturn, 1) := by decide +kernel
theorem dX7_isNumber_69 : decode cX7_isNumber 69 = .ok (.iload_n 1, 1) := by decide +kernel
theorem dX7_isNumber_70 : decode cX7_isNumber 70 = .ok (.iconst 0, 1) := by decide +kernel
theorem dX7_isNumber_71 : decode cX7_isNumber 71 = .ok (.bipush 120, 2) := by decide +kernel
theorem dX7_isNumber_73 : decode cX7_isNumber 73 = .ok (.invokestatic 35, 3) := by decide +kernel
theorem dX7_isNumber_76 : decode cX7_isNumber 76 = .ok (.ireturn, 1) := by decide +kernel
theorem dX7_isNumber_77 : decode cX7_isNumber 77 = .ok (.iload_n 1, 1) := by decide +kernel
theorem dX7_isNumber_78 : decode cX7_isNumber 78 = .ok (.iconst 0, 1) := by decide +kernel
theorem dX7_isNumber_79 : decode cX7_isNumber 79 = .ok (.bipush 100, 2) := by decide +kernel
theorem dX7_isNumber_81 : decode cX7_isNumber 81 = .ok (.invokestatic 35, 3) := by decide +kernel
theorem dX7_isNumber_84 : decode cX7_isNumber 84 = .ok (.ireturn, 1) := by decide +kernel
theorem dX7_isNumber_85 : decode cX7_isNumber 85 = .ok (.iload_n 1, 1) := by decide +kernel
theorem dX7_isNumber_86 : decode cX7_isNumber 86 = .ok (.sipush 20000, 3) := by decide +kernel
theorem dX7_isNumber_89 : decode cX7_isNumber 89 = .ok (.ldc 72, 2) := by decide +kernel
theorem dX7_isNumber_91 : decode cX7_isNumber 91 = .ok (.invokestatic 35, 3) := by decide +kernel
theorem dX7_isNumber_94 : decode cX7_isNumber 94 = .ok (.ireturn, 1) := by decide +kernel
theorem dX7_isNumber_95 : decode cX7_isNumber 95 = .ok (.iload_n 1, 1) := by decide +kernel
theorem dX7_isNumber_96 : decode cX7_isNumber 96 = .ok (.iconst 1, 1) := by decide +kernel
theorem dX7_isNumber_97 : decode cX7_isNumber 97 = .ok (.bipush 120, 2) := by decide +kernel
theorem dX7_isNumber_99 : decode cX7_isNumber 99 = .ok (.invokestatic 35, 3) := by decide +kernel
theorem dX7_isNumber_102 : decode cX7_isNumber 102 = .ok (.ireturn, 1) := by decide +kernel
theorem dX7_isNumber_103 : decode cX7_isNumber 103 = .ok (.iconst 0, 1) := by decide +kernel
theorem dX7_isNumber_104 : decode cX7_isNumber 104 = .ok (.ireturn, 1) := by decide +kernel
theorem dX7_setNumber_0 : decode cX7_setNumber 0 = .ok (.iload_n 1, 1) := by decide +kernel
theorem dX7_setNumber_1 : decode cX7_setNumber 1 = .ok (.iload_n 2, 1) := by decide +kernel
theorem dX7_setNumber_2 : decode cX7_setNumber 2 = .ok (.invokestatic 73, 3) := by decide +kernel
theorem dX7_setNumber_5 : decode cX7_setNumber 5 = .ok (.ifCond .ne 6, 3) := by decide +kernel
theorem dX7_setNumber_8 : decode cX7_setNumber 8 = .ok (.ldc 46, 2) := by decide +kernel
theorem dX7_setNumber_10 : decode cX7_setNumber 10 = .ok (.ireturn, 1) := by decide +kernel
theorem dX7_setNumber_11 : decode cX7_setNumber 11 = .ok (.aload_n 0, 1) := by decide +kernel
theorem dX7_setNumber_12 : decode cX7_setNumber 12 = .ok (.invokevirtual 48, 3) := by decide +kernel
theorem dX7_setNumber_15 : decode cX7_setNumber 15 = .ok (.aload_n 0, 1) := by decide +kernel
theorem dX7_setNumber_16 : decode cX7_setNumber 16 = .ok (.getfield 7, 3) := by decide +kernel
theorem dX7_setNumber_19 : decode cX7_setNumber 19 = .ok (.iload_n 1, 1) := by decide +kernel
theorem dX7_setNumber_20 : decode cX7_setNumber 20 = .ok (.iaload, 1) := by decide +kernel
theorem dX7_setNumber_21 : decode cX7_setNumber 21 = .ok (.istore_n 3, 1) := by decide +kernel
theorem dX7_setNumber_22 : decode cX7_setNumber 22 = .ok (.aload_n 0, 1) := by decide +kernel
theorem dX7_setNumber_23 : decode cX7_setNumber 23 = .ok (.getfield 7, 3) := by decide +kernel
theorem dX7_setNumber_26 : decode cX7_setNumber 26 = .ok (.iload_n 1, 1) := by decide +kernel
theorem dX7_setNumber_27 : decode cX7_setNumber 27 = .ok (.iload_n 2, 1) := by decide +kernel
theorem dX7_setNumber_28 : decode cX7_setNumber 28 = .ok (.iastore, 1) := by decide +kernel
theorem dX7_setNumber_29 : decode cX7_setNumber 29 = .ok (.iload_n 3, 1) := by decide +kernel
theorem dX7_setNumber_30 : decode cX7_setNumber 30 = .ok (.ireturn, 1) := by decide +kernel
theorem dX7_warm_0 : decode cX7_warm 0 = .ok (.aload_n 0, 1) := by decide +kernel
theorem dX7_warm_1 : decode cX7_warm 1 = .ok (.iload_n 1, 1) := by decide +kernel
theorem dX7_warm_2 : decode cX7_warm 2 = .ok (.invokevirtual 56, 3) := by decide +kernel
theorem dX7_warm_5 : decode cX7_warm 5 = .ok (.ifCond .eq 14, 3) := by decide +kernel
theorem dX7_warm_8 : decode cX7_warm 8 = .ok (.iload_n 2, 1) := by decide +kernel
theorem dX7_warm_9 : decode cX7_warm 9 = .ok (.ldc 76, 2) := by decide +kernel
theorem dX7_warm_11 : decode cX7_warm 11 = .ok (.ldc 77, 2) := by decide +kernel
theorem dX7_warm_13 : decode cX7_warm 13 = .ok (.invokestatic 35, 3) := by decide +kernel
theorem dX7_warm_16 : decode cX7_warm 16 = .ok (.ifCond .ne 6, 3) := by decide +kernel
theorem dX7_warm_19 : decode cX7_warm 19 = .ok (.ldc 46, 2) := by decide +kernel
theorem dX7_warm_21 : decode cX7_warm 21 = .ok (.ireturn, 1) := by decide +kernel
theorem dX7_warm_22 : decode cX7_warm 22 = .ok (.ldc2_w 78, 3) := by decide +kernel
theorem dX7_warm_25 : decode cX7_warm 25 = .ok (.aload_n 0, 1) := by decide +kernel
theorem dX7_warm_26 : decode cX7_warm 26 = .ok (.iload_n 1, 1) := by decide +kernel
theorem dX7_warm_27 : decode cX7_warm 27 = .ok (.iconst 0, 1) := by decide +kernel
theorem dX7_warm_28 : decode cX7_warm 28 = .ok (.invokevirtual 39, 3) := by decide +kernel
theorem dX7_warm_31 : decode cX7_warm 31 = .ok (.i2l, 1) := by decide +kernel
theorem dX7_warm_32 : decode cX7_warm 32 = .ok (.lmul, 1) := by decide +kernel
theorem dX7_warm_33 : decode cX7_warm 33 = .ok (.lstore_n 3, 1) := by decide +kernel
theorem dX7_warm_34 : decode cX7_warm 34 = .ok (.aload_n 0, 1) := by decide +kernel
theorem dX7_warm_35 : decode cX7_warm 35 = .ok (.iload_n 1, 1) := by decide +kernel
theorem dX7_warm_36 : decode cX7_warm 36 = .ok (.iconst 1, 1) := by decide +kernel
theorem dX7_warm_37 : decode cX7_warm 37 = .ok (.invokevirtual 39, 3) := by decide +kernel
theorem dX7_warm_40 : decode cX7_warm 40 = .ok (.i2l, 1) := by decide +kernel
theorem dX7_warm_41 : decode cX7_warm 41 = .ok (.iload_n 2, 1) := by decide +kernel
theorem dX7_warm_42 : decode cX7_warm 42 = .ok (.i2l, 1) := by decide +kernel
theorem dX7_warm_43 : decode cX7_warm 43 = .ok (.ladd, 1) := by decide +kernel
theorem dX7_warm_44 : decode cX7_warm 44 = .ok (.lstore 5, 2) := by decide +kernel
theorem dX7_warm_46 : decode cX7_warm 46 = .ok (.lload 5, 2) := by decide +kernel
theorem dX7_warm_48 : decode cX7_warm 48 = .ok (.lload_n 3, 1) := by decide +kernel
theorem dX7_warm_49 : decode cX7_warm 49 = .ok (.lneg, 1) := by decide +kernel
theorem dX7_warm_50 : decode cX7_warm 50 = .ok (.lcmp, 1) := by decide +kernel
theorem dX7_warm_51 : decode cX7_warm 51 = .ok (.ifCond .lt 27, 3) := by decide +kernel
theorem dX7_warm_54 : decode cX7_warm 54 = .ok (.lload 5, 2) := by decide +kernel
theorem dX7_warm_56 : decode cX7_warm 56 = .ok (.lload_n 3, 1) := by decide +kernel
theorem dX7_warm_57 : decode cX7_warm 57 = .ok (.lcmp, 1) := by decide +kernel
theorem dX7_warm_58 : decode cX7_warm 58 = .ok (.ifCond .lt 23, 3) := by decide +kernel
theorem dX7_warm_61 : decode cX7_warm 61 = .ok (.lload 5, 2) := by decide +kernel
theorem dX7_warm_63 : decode cX7_warm 63 = .ok (.l2i, 1) := by decide +kernel
theorem dX7_warm_64 : decode cX7_warm 64 = .ok (.aload_n 0, 1) := by decide +kernel
theorem dX7_warm_65 : decode cX7_warm 65 = .ok (.iload_n 1, 1) := by decide +kernel
theorem dX7_warm_66 : decode cX7_warm 66 = .ok (.iconst 0, 1) := by decide +kernel
theorem dX7_warm_67 : decode cX7_warm 67 = .ok (.invokevirtual 39, 3) := by decide +kernel
theorem dX7_warm_70 : decode cX7_warm 70 = .ok (.invokestatic 43, 3) := by decide +kernel
theorem dX7_warm_73 : decode cX7_warm 73 = .ok (.ldc 80, 2) := by decide +kernel
theorem dX7_warm_75 : decode cX7_warm 75 = .ok (.if_icmp .le 6, 3) := by decide +kernel
theorem dX7_warm_78 : decode cX7_warm 78 = .ok (.ldc 34, 2) := by decide +kernel
theorem dX7_warm_80 : decode cX7_warm 80 = .ok (.ireturn, 1) := by decide +kernel
theorem dX7_warm_81 : decode cX7_warm 81 = .ok (.aload_n 0, 1) := by decide +kernel
theorem dX7_warm_82 : decode cX7_warm 82 = .ok (.invokevirtual 48, 3) := by decide +kernel
theorem dX7_warm_85 : decode cX7_warm 85 = .ok (.aload_n 0, 1) := by decide +kernel
theorem dX7_warm_86 : decode cX7_warm 86 = .ok (.iload_n 1, 1) := by decide +kernel
theorem dX7_warm_87 : decode cX7_warm 87 = .ok (.iconst 1, 1) := by decide +kernel
theorem dX7_warm_88 : decode cX7_warm 88 = .ok (.iload_n 2, 1) := by decide +kernel
theorem dX7_warm_89 : decode cX7_warm 89 = .ok (.invokevirtual 81, 3) := by decide +kernel
theorem dX7_warm_92 : decode cX7_warm 92 = .ok (.aload_n 0, 1) := by decide +kernel
theorem dX7_warm_93 : decode cX7_warm 93 = .ok (.iload_n 1, 1) := by decide +kernel
theorem dX7_warm_94 : decode cX7_warm 94 = .ok (.bipush 20, 2) := by decide +kernel
theorem dX7_warm_96 : decode cX7_warm 96 = .ok (.iload_n 2, 1) := by decide +kernel
theorem dX7_warm_97 : decode cX7_warm 97 = .ok (.invokevirtual 81, 3) := by decide +kernel
theorem dX7_warm_100 : decode cX7_warm 100 = .ok (.aload_n 0, 1) := by decide +kernel
theorem dX7_warm_101 : decode cX7_warm 101 = .ok (.iload_n 1, 1) := by decide +kernel
theorem dX7_warm_102 : decode cX7_warm 102 = .ok (.invokevirtual 84, 3) := by decide +kernel
theorem dX7_warm_105 : decode cX7_warm 105 = .ok (.ireturn, 1) := by decide +kernel
theorem dX7_service_0 : decode cX7_service 0 = .ok (.aload_n 0, 1) := by decide +kernel
theorem dX7_service_1 : decode cX7_service 1 = .ok (.iload_n 1, 1) := by decide +kernel
theorem dX7_service_2 : decode cX7_service 2 = .ok (.invokevirtual 56, 3) := by decide +kernel
theorem dX7_service_5 : decode cX7_service 5 = .ok (.ifCond .ne 6, 3) := by decide +kernel
theorem dX7_service_8 : decode cX7_service 8 = .ok (.ldc 46, 2) := by decide +kernel
theorem dX7_service_10 : decode cX7_service 10 = .ok (.ireturn, 1) := by decide +kernel
theorem dX7_service_11 : decode cX7_service 11 = .ok (.aload_n 0, 1) := by decide +kernel
theorem dX7_service_12 : decode cX7_service 12 = .ok (.invokevirtual 48, 3) := by decide +kernel
theorem dX7_service_15 : decode cX7_service 15 = .ok (.aload_n 0, 1) := by decide +kernel
theorem dX7_service_16 : decode cX7_service 16 = .ok (.iload_n 1, 1) := by decide +kernel
theorem dX7_service_17 : decode cX7_service 17 = .ok (.bipush 9, 2) := by decide +kernel
theorem dX7_service_19 : decode cX7_service 19 = .ok (.invokevirtual 39, 3) := by decide +kernel
theorem dX7_service_22 : decode cX7_service 22 = .ok (.istore_n 2, 1) := by decide +kernel
theorem dX7_service_23 : decode cX7_service 23 = .ok (.aload_n 0, 1) := by decide +kernel
theorem dX7_service_24 : decode cX7_service 24 = .ok (.iload_n 1, 1) := by decide +kernel
theorem dX7_service_25 : decode cX7_service 25 = .ok (.bipush 9, 2) := by decide +kernel
theorem dX7_service_27 : decode cX7_service 27 = .ok (.iconst 0, 1) := by decide +kernel
theorem dX7_service_28 : decode cX7_service 28 = .ok (.invokevirtual 51, 3) := by decide +kernel
theorem dX7_service_31 : decode cX7_service 31 = .ok (.aload_n 0, 1) := by decide +kernel
theorem dX7_service_32 : decode cX7_service 32 = .ok (.iload_n 1, 1) := by decide +kernel
theorem dX7_service_33 : decode cX7_service 33 = .ok (.bipush 10, 2) := by decide +kernel
theorem dX7_service_35 : decode cX7_service 35 = .ok (.iconst 0, 1) := by decide +kernel
theorem dX7_service_36 : decode cX7_service 36 = .ok (.invokevirtual 51, 3) := by decide +kernel
theorem dX7_service_39 : decode cX7_service 39 = .ok (.aload_n 0, 1) := by decide +kernel
theorem dX7_service_40 : decode cX7_service 40 = .ok (.iload_n 1, 1) := by decide +kernel
theorem dX7_service_41 : decode cX7_service 41 = .ok (.bipush 8, 2) := by decide +kernel
theorem dX7_service_43 : decode cX7_service 43 = .ok (.iconst 0, 1) := by decide +kernel
theorem dX7_service_44 : decode cX7_service 44 = .ok (.invokevirtual 51, 3) := by decide +kernel
theorem dX7_service_47 : decode cX7_service 47 = .ok (.aload_n 0, 1) := by decide +kernel
theorem dX7_service_48 : decode cX7_service 48 = .ok (.iload_n 1, 1) := by decide +kernel
theorem dX7_service_49 : decode cX7_service 49 = .ok (.bipush 7, 2) := by decide +kernel
theorem dX7_service_51 : decode cX7_service 51 = .ok (.iconst 0, 1) := by decide +kernel
theorem dX7_service_52 : decode cX7_service 52 = .ok (.invokevirtual 51, 3) := by decide +kernel
theorem dX7_service_55 : decode cX7_service 55 = .ok (.iload_n 2, 1) := by decide +kernel
theorem dX7_service_56 : decode cX7_service 56 = .ok (.ireturn, 1) := by decide +kernel
theorem dX7_resetCutout_0 : decode cX7_resetCutout 0 = .ok (.aload_n 0, 1) := by decide +kernel
theorem dX7_resetCutout_1 : decode cX7_resetCutout 1 = .ok (.iload_n 1, 1) := by decide +kernel
theorem dX7_resetCutout_2 : decode cX7_resetCutout 2 = .ok (.invokevirtual 56, 3) := by decide +kernel
theorem dX7_resetCutout_5 : decode cX7_resetCutout 5 = .ok (.ifCond .ne 6, 3) := by decide +kernel
theorem dX7_resetCutout_8 : decode cX7_resetCutout 8 = .ok (.ldc 46, 2) := by decide +kernel
theorem dX7_resetCutout_10 : decode cX7_resetCutout 10 = .ok (.ireturn, 1) := by decide +kernel
theorem dX7_resetCutout_11 : decode cX7_resetCutout 11 = .ok (.aload_n 0, 1) := by decide +kernel
theorem dX7_resetCutout_12 : decode cX7_resetCutout 12 = .ok (.iload_n 1, 1) := by decide +kernel
theorem dX7_resetCutout_13 : decode cX7_resetCutout 13 = .ok (.bipush 14, 2) := by decide +kernel
theorem dX7_resetCutout_15 : decode cX7_resetCutout 15 = .ok (.invokevirtual 39, 3) := by decide +kernel
theorem dX7_resetCutout_18 : decode cX7_resetCutout 18 = .ok (.ifCond .eq 17, 3) := by decide +kernel
theorem dX7_resetCutout_21 : decode cX7_resetCutout 21 = .ok (.aload_n 0, 1) := by decide +kernel
theorem dX7_resetCutout_22 : decode cX7_resetCutout 22 = .ok (.iload_n 1, 1) := by decide +kernel
theorem dX7_resetCutout_23 : decode cX7_resetCutout 23 = .ok (.invokevirtual 84, 3) := by decide +kernel
theorem dX7_resetCutout_26 : decode cX7_resetCutout 26 = .ok (.aload_n 0, 1) := by decide +kernel
theorem dX7_resetCutout_27 : decode cX7_resetCutout 27 = .ok (.getfield 7, 3) := by decide +kernel
theorem dX7_resetCutout_30 : decode cX7_resetCutout 30 = .ok (.iconst 5, 1) := by decide +kernel
theorem dX7_resetCutout_31 : decode cX7_resetCutout 31 = .ok (.iaload, 1) := by decide +kernel
theorem dX7_resetCutout_32 : decode cX7_resetCutout 32 = .ok (.if_icmp .le 6, 3) := by decide +kernel
theorem dX7_resetCutout_35 : decode cX7_resetCutout 35 = .ok (.ldc 34, 2) := by decide +kernel
theorem dX7_resetCutout_37 : decode cX7_resetCutout 37 = .ok (.ireturn, 1) := by decide +kernel
theorem dX7_resetCutout_38 : decode cX7_resetCutout 38 = .ok (.aload_n 0, 1) := by decide +kernel
theorem dX7_resetCutout_39 : decode cX7_resetCutout 39 = .ok (.invokevirtual 48, 3) := by decide +kernel
theorem dX7_resetCutout_42 : decode cX7_resetCutout 42 = .ok (.aload_n 0, 1) := by decide +kernel
theorem dX7_resetCutout_43 : decode cX7_resetCutout 43 = .ok (.iload_n 1, 1) := by decide +kernel
theorem dX7_resetCutout_44 : decode cX7_resetCutout 44 = .ok (.bipush 14, 2) := by decide +kernel
theorem dX7_resetCutout_46 : decode cX7_resetCutout 46 = .ok (.iconst 0, 1) := by decide +kernel
theorem dX7_resetCutout_47 : decode cX7_resetCutout 47 = .ok (.invokevirtual 51, 3) := by decide +kernel
theorem dX7_resetCutout_50 : decode cX7_resetCutout 50 = .ok (.aload_n 0, 1) := by decide +kernel
theorem dX7_resetCutout_51 : decode cX7_resetCutout 51 = .ok (.iload_n 1, 1) := by decide +kernel
theorem dX7_resetCutout_52 : decode cX7_resetCutout 52 = .ok (.invokevirtual 84, 3) := by decide +kernel
theorem dX7_resetCutout_55 : decode cX7_resetCutout 55 = .ok (.ireturn, 1) := by decide +kernel
theorem dX7_room_0 : decode cX7_room 0 = .ok (.aload_n 0, 1) := by decide +kernel
theorem dX7_room_1 : decode cX7_room 1 = .ok (.iload_n 1, 1) := by decide +kernel
theorem dX7_room_2 : decode cX7_room 2 = .ok (.invokevirtual 56, 3) := by decide +kernel
theorem dX7_room_5 : decode cX7_room 5 = .ok (.ifCond .eq 13, 3) := by decide +kernel
theorem dX7_room_8 : decode cX7_room 8 = .ok (.iload_n 2, 1) := by decide +kernel
theorem dX7_room_9 : decode cX7_room 9 = .ok (.iconst 0, 1) := by decide +kernel
theorem dX7_room_10 : decode cX7_room 10 = .ok (.bipush 13, 2) := by decide +kernel
theorem dX7_room_12 : decode cX7_room 12 = .ok (.invokestatic 35, 3) := by decide +kernel
theorem dX7_room_15 : decode cX7_room 15 = .ok (.ifCond .ne 6, 3) := by decide +kernel
theorem dX7_room_18 : decode cX7_room 18 = .ok (.ldc 46, 2) := by decide +kernel
theorem dX7_room_20 : decode cX7_room 20 = .ok (.ireturn, 1) := by decide +kernel
theorem dX7_room_21 : decode cX7_room 21 = .ok (.iload_n 2, 1) := by decide +kernel
theorem dX7_room_22 : decode cX7_room 22 = .ok (.lookupswitch 69 #[(0, 42), (1, 48), (12, 55), (13, 62)], 42) := by decide +kernel
theorem dX7_room_64 : decode cX7_room 64 = .ok (.aload_n 0, 1) := by decide +kernel
theorem dX7_room_65 : decode cX7_room 65 = .ok (.iload_n 1, 1) := by decide +kernel
theorem dX7_room_66 : decode cX7_room 66 = .ok (.invokevirtual 84, 3) := by decide +kernel
theorem dX7_room_69 : decode cX7_room 69 = .ok (.ireturn, 1) := by decide +kernel
theorem dX7_room_70 : decode cX7_room 70 = .ok (.aload_n 0, 1) := by decide +kernel
theorem dX7_room_71 : decode cX7_room 71 = .ok (.iload_n 1, 1) := by decide +kernel
theorem dX7_room_72 : decode cX7_room 72 = .ok (.iconst 1, 1) := by decide +kernel
theorem dX7_room_73 : decode cX7_room 73 = .ok (.invokevirtual 39, 3) := by decide +kernel
theorem dX7_room_76 : decode cX7_room 76 = .ok (.ireturn, 1) := by decide +kernel
theorem dX7_room_77 : decode cX7_room 77 = .ok (.aload_n 0, 1) := by decide +kernel
theorem dX7_room_78 : decode cX7_room 78 = .ok (.iload_n 1, 1) := by decide +kernel
theorem dX7_room_79 : decode cX7_room 79 = .ok (.iconst 4, 1) := by decide +kernel
theorem dX7_room_80 : decode cX7_room 80 = .ok (.invokevirtual 39, 3) := by decide +kernel
theorem dX7_room_83 : decode cX7_room 83 = .ok (.ireturn, 1) := by decide +kernel
theorem dX7_room_84 : decode cX7_room 84 = .ok (.aload_n 0, 1) := by decide +kernel
theorem dX7_room_85 : decode cX7_room 85 = .ok (.iload_n 1, 1) := by decide +kernel
theorem dX7_room_86 : decode cX7_room 86 = .ok (.iconst 5, 1) := by decide +kernel
theorem dX7_room_87 : decode cX7_room 87 = .ok (.invokevirtual 39, 3) := by decide +kernel
theorem dX7_room_90 : decode cX7_room 90 = .ok (.ireturn, 1) := by decide +kernel
theorem dX7_room_91 : decode cX7_room 91 = .ok (.aload_n 0, 1) := by decide +kernel
theorem dX7_room_92 : decode cX7_room 92 = .ok (.iload_n 1, 1) := by decide +kernel
theorem dX7_room_93 : decode cX7_room 93 = .ok (.bipush 6, 2) := by decide +kernel
theorem dX7_room_95 : decode cX7_room 95 = .ok (.iload_n 2, 1) := by decide +kernel
theorem dX7_room_96 : decode cX7_room 96 = .ok (.iadd, 1) := by decide +kernel
theorem dX7_room_97 : decode cX7_room 97 = .ok (.iconst 2, 1) := by decide +kernel
theorem dX7_room_98 : decode cX7_room 98 = .ok (.isub, 1) := by decide +kernel
theorem dX7_room_99 : decode cX7_room 99 = .ok (.invokevirtual 39, 3) := by decide +kernel
theorem dX7_room_102 : decode cX7_room 102 = .ok (.ireturn, 1) := by decide +kernel
theorem dX7_book_0 : decode cX7_book 0 = .ok (.aload_n 0, 1) := by decide +kernel
theorem dX7_book_1 : decode cX7_book 1 = .ok (.iload_n 1, 1) := by decide +kernel
theorem dX7_book_2 : decode cX7_book 2 = .ok (.invokevirtual 56, 3) := by decide +kernel
theorem dX7_book_5 : decode cX7_book 5 = .ok (.ifCond .eq 12, 3) := by decide +kernel
theorem dX7_book_8 : decode cX7_book 8 = .ok (.iload_n 2, 1) := by decide +kernel
theorem dX7_book_9 : decode cX7_book 9 = .ok (.iconst 0, 1) := by decide +kernel
theorem dX7_book_10 : decode cX7_book 10 = .ok (.iconst 4, 1) := by decide +kernel
theorem dX7_book_11 : decode cX7_book 11 = .ok (.invokestatic 35, 3) := by decide +kernel
theorem dX7_book_14 : decode cX7_book 14 = .ok (.ifCond .ne 8, 3) := by decide +kernel
theorem dX7_book_17 : decode cX7_book 17 = .ok (.ldc 46, 2) := by decide +kernel
theorem dX7_book_19 : decode cX7_book 19 = .ok (.goto 12, 3) := by decide +kernel
theorem dX7_book_22 : decode cX7_book 22 = .ok (.aload_n 0, 1) := by decide +kernel
theorem dX7_book_23 : decode cX7_book 23 = .ok (.iload_n 1, 1) := by decide +kernel
theorem dX7_book_24 : decode cX7_book 24 = .ok (.bipush 16, 2) := by decide +kernel
theorem dX7_book_26 : decode cX7_book 26 = .ok (.iload_n 2, 1) := by decide +kernel
theorem dX7_book_27 : decode cX7_book 27 = .ok (.iadd, 1) := by decide +kernel
theorem dX7_book_28 : decode cX7_book 28 = .ok (.invokevirtual 39, 3) := by decide +kernel
theorem dX7_book_31 : decode cX7_book 31 = .ok (.ireturn, 1) := by decide +kernel
theorem dX7_isSuspect_0 : decode cX7_isSuspect 0 = .ok (.aload_n 0, 1) := by decide +kernel
theorem dX7_isSuspect_1 : decode cX7_isSuspect 1 = .ok (.iload_n 1, 1) := by decide +kernel
theorem dX7_isSuspect_2 : decode cX7_isSuspect 2 = .ok (.bipush 13, 2) := by decide +kernel
theorem dX7_isSuspect_4 : decode cX7_isSuspect 4 = .ok (.invokevirtual 39, 3) := by decide +kernel
theorem dX7_isSuspect_7 : decode cX7_isSuspect 7 = .ok (.aload_n 0, 1) := by decide +kernel
theorem dX7_isSuspect_8 : decode cX7_isSuspect 8 = .ok (.getfield 7, 3) := by decide +kernel
theorem dX7_isSuspect_11 : decode cX7_isSuspect 11 = .ok (.bipush 6, 2) := by decide +kernel
theorem dX7_isSuspect_13 : decode cX7_isSuspect 13 = .ok (.iaload, 1) := by decide +kernel
theorem dX7_isSuspect_14 : decode cX7_isSuspect 14 = .ok (.if_icmp .lt 7, 3) := by decide +kernel
theorem dX7_isSuspect_17 : decode cX7_isSuspect 17 = .ok (.iconst 1, 1) := by decide +kernel
theorem dX7_isSuspect_18 : decode cX7_isSuspect 18 = .ok (.goto 4, 3) := by decide +kernel
theorem dX7_isSuspect_21 : decode cX7_isSuspect 21 = .ok (.iconst 0, 1) := by decide +kernel
theorem dX7_isSuspect_22 : decode cX7_isSuspect 22 = .ok (.ireturn, 1) := by decide +kernel
theorem dX7_count_0 : decode cX7_count 0 = .ok (.iconst 0, 1) := by decide +kernel
theorem dX7_count_1 : decode cX7_count 1 = .ok (.istore_n 2, 1) := by decide +kernel
theorem dX7_count_2 : decode cX7_count 2 = .ok (.iload_n 1, 1) := by decide +kernel
theorem dX7_count_3 : decode cX7_count 3 = .ok (.tableswitch 107 10 13 #[29, 66, 97, 102], 29) := by decide +kernel
theorem dX7_count_32 : decode cX7_count 32 = .ok (.iconst 0, 1) := by decide +kernel
theorem dX7_count_33 : decode cX7_count 33 = .ok (.istore_n 3, 1) := by decide +kernel
theorem dX7_count_34 : decode cX7_count 34 = .ok (.iload_n 3, 1) := by decide +kernel
theorem dX7_count_35 : decode cX7_count 35 = .ok (.aload_n 0, 1) := by decide +kernel
theorem dX7_count_36 : decode cX7_count 36 = .ok (.getfield 7, 3) := by decide +kernel
theorem dX7_count_39 : decode cX7_count 39 = .ok (.bipush 7, 2) := by decide +kernel
theorem dX7_count_41 : decode cX7_count 41 = .ok (.iaload, 1) := by decide +kernel
theorem dX7_count_42 : decode cX7_count 42 = .ok (.if_icmp .ge 25, 3) := by decide +kernel
theorem dX7_count_45 : decode cX7_count 45 = .ok (.iload_n 2, 1) := by decide +kernel
theorem dX7_count_46 : decode cX7_count 46 = .ok (.aload_n 0, 1) := by decide +kernel
theorem dX7_count_47 : decode cX7_count 47 = .ok (.iload_n 3, 1) := by decide +kernel
theorem dX7_count_48 : decode cX7_count 48 = .ok (.invokevirtual 87, 3) := by decide +kernel
theorem dX7_count_51 : decode cX7_count 51 = .ok (.ifCond .eq 7, 3) := by decide +kernel
theorem dX7_count_54 : decode cX7_count 54 = .ok (.iconst 1, 1) := by decide +kernel
theorem dX7_count_55 : decode cX7_count 55 = .ok (.goto 4, 3) := by decide +kernel
theorem dX7_count_58 : decode cX7_count 58 = .ok (.iconst 0, 1) := by decide +kernel
theorem dX7_count_59 : decode cX7_count 59 = .ok (.iadd, 1) := by decide +kernel
theorem dX7_count_60 : decode cX7_count 60 = .ok (.istore_n 2, 1) := by decide +kernel
theorem dX7_count_61 : decode cX7_count 61 = .ok (.iinc 3 1, 3) := by decide +kernel
theorem dX7_count_64 : decode cX7_count 64 = .ok (.goto (-30), 3) := by decide +kernel
theorem dX7_count_67 : decode cX7_count 67 = .ok (.iload_n 2, 1) := by decide +kernel
theorem dX7_count_68 : decode cX7_count 68 = .ok (.ireturn, 1) := by decide +kernel
theorem dX7_count_69 : decode cX7_count 69 = .ok (.iconst 0, 1) := by decide +kernel
theorem dX7_count_70 : decode cX7_count 70 = .ok (.istore_n 3, 1) := by decide +kernel
theorem dX7_count_71 : decode cX7_count 71 = .ok (.iload_n 3, 1) := by decide +kernel
theorem dX7_count_72 : decode cX7_count 72 = .ok (.aload_n 0, 1) := by decide +kernel
theorem dX7_count_73 : decode cX7_count 73 = .ok (.getfield 7, 3) := by decide +kernel
theorem dX7_count_76 : decode cX7_count 76 = .ok (.bipush 7, 2) := by decide +kernel
theorem dX7_count_78 : decode cX7_count 78 = .ok (.iaload, 1) := by decide +kernel
theorem dX7_count_79 : decode cX7_count 79 = .ok (.if_icmp .ge 19, 3) := by decide +kernel
theorem dX7_count_82 : decode cX7_count 82 = .ok (.iload_n 2, 1) := by decide +kernel
theorem dX7_count_83 : decode cX7_count 83 = .ok (.aload_n 0, 1) := by decide +kernel
theorem dX7_count_84 : decode cX7_count 84 = .ok (.iload_n 3, 1) := by decide +kernel
theorem dX7_count_85 : decode cX7_count 85 = .ok (.bipush 12, 2) := by decide +kernel
theorem dX7_count_87 : decode cX7_count 87 = .ok (.invokevirtual 39, 3) := by decide +kernel
theorem dX7_count_90 : decode cX7_count 90 = .ok (.iadd, 1) := by decide +kernel
theorem dX7_count_91 : decode cX7_count 91 = .ok (.istore_n 2, 1) := by decide +kernel
theorem dX7_count_92 : decode cX7_count 92 = .ok (.iinc 3 1, 3) := by decide +kernel
theorem dX7_count_95 : decode cX7_count 95 = .ok (.goto (-24), 3) := by decide +kernel
theorem dX7_count_98 : decode cX7_count 98 = .ok (.iload_n 2, 1) := by decide +kernel
theorem dX7_count_99 : decode cX7_count 99 = .ok (.ireturn, 1) := by decide +kernel
theorem dX7_count_100 : decode cX7_count 100 = .ok (.aload_n 0, 1) := by decide +kernel
theorem dX7_count_101 : decode cX7_count 101 = .ok (.getfield 90, 3) := by decide +kernel
theorem dX7_count_104 : decode cX7_count 104 = .ok (.ireturn, 1) := by decide +kernel
theorem dX7_count_105 : decode cX7_count 105 = .ok (.aload_n 0, 1) := by decide +kernel
theorem dX7_count_106 : decode cX7_count 106 = .ok (.getfield 30, 3) := by decide +kernel
theorem dX7_count_109 : decode cX7_count 109 = .ok (.ireturn, 1) := by decide +kernel
theorem dX7_count_110 : decode cX7_count 110 = .ok (.iload_n 1, 1) := by decide +kernel
theorem dX7_count_111 : decode cX7_count 111 = .ok (.iconst 0, 1) := by decide +kernel
theorem dX7_count_112 : decode cX7_count 112 = .ok (.bipush 9, 2) := by decide +kernel
theorem dX7_count_114 : decode cX7_count 114 = .ok (.invokestatic 35, 3) := by decide +kernel
theorem dX7_count_117 : decode cX7_count 117 = .ok (.ifCond .eq 12, 3) := by decide +kernel
theorem dX7_count_120 : decode cX7_count 120 = .ok (.aload_n 0, 1) := by decide +kernel
theorem dX7_count_121 : decode cX7_count 121 = .ok (.getfield 7, 3) := by decide +kernel
theorem dX7_count_124 : decode cX7_count 124 = .ok (.iload_n 1, 1) := by decide +kernel
theorem dX7_count_125 : decode cX7_count 125 = .ok (.iaload, 1) := by decide +kernel
theorem dX7_count_126 : decode cX7_count 126 = .ok (.goto 5, 3) := by decide +kernel
theorem dX7_count_129 : decode cX7_count 129 = .ok (.ldc 46, 2) := by decide +kernel
theorem dX7_count_131 : decode cX7_count 131 = .ok (.ireturn, 1) := by decide +kernel
theorem dX7_appendCharacter_0 : decode cX7_appendCharacter 0 = .ok (.iload_n 1, 1) := by decide +kernel
theorem dX7_appendCharacter_1 : decode cX7_appendCharacter 1 = .ok (.iconst 0, 1) := by decide +kernel
theorem dX7_appendCharacter_2 : decode cX7_appendCharacter 2 = .ok (.sipush 255, 3) := by decide +kernel
theorem dX7_appendCharacter_5 : decode cX7_appendCharacter 5 = .ok (.invokestatic 35, 3) := by decide +kernel
theorem dX7_appendCharacter_8 : decode cX7_appendCharacter 8 = .ok (.ifCond .ne 6, 3) := by decide +kernel
theorem dX7_appendCharacter_11 : decode cX7_appendCharacter 11 = .ok (.ldc 46, 2) := by decide +kernel
theorem dX7_appendCharacter_13 : decode cX7_appendCharacter 13 = .ok (.ireturn, 1) := by decide +kernel
theorem dX7_appendCharacter_14 : decode cX7_appendCharacter 14 = .ok (.aload_n 0, 1) := by decide +kernel
theorem dX7_appendCharacter_15 : decode cX7_appendCharacter 15 = .ok (.getfield 90, 3) := by decide +kernel
theorem dX7_appendCharacter_18 : decode cX7_appendCharacter 18 = .ok (.bipush 100, 2) := by decide +kernel
theorem dX7_appendCharacter_20 : decode cX7_appendCharacter 20 = .ok (.if_icmp .ne 6, 3) := by decide +kernel
theorem dX7_appendCharacter_23 : decode cX7_appendCharacter 23 = .ok (.ldc 47, 2) := by decide +kernel
theorem dX7_appendCharacter_25 : decode cX7_appendCharacter 25 = .ok (.ireturn, 1) := by decide +kernel
theorem dX7_appendCharacter_26 : decode cX7_appendCharacter 26 = .ok (.aload_n 0, 1) := by decide +kernel
theorem dX7_appendCharacter_27 : decode cX7_appendCharacter 27 = .ok (.getfield 16, 3) := by decide +kernel
theorem dX7_appendCharacter_30 : decode cX7_appendCharacter 30 = .ok (.aload_n 0, 1) := by decide +kernel
theorem dX7_appendCharacter_31 : decode cX7_appendCharacter 31 = .ok (.getfield 90, 3) := by decide +kernel
theorem dX7_appendCharacter_34 : decode cX7_appendCharacter 34 = .ok (.iload_n 1, 1) := by decide +kernel
theorem dX7_appendCharacter_35 : decode cX7_appendCharacter 35 = .ok (.i2b, 1) := by decide +kernel
theorem dX7_appendCharacter_36 : decode cX7_appendCharacter 36 = .ok (.bastore, 1) := by decide +kernel
theorem dX7_appendCharacter_37 : decode cX7_appendCharacter 37 = .ok (.aload_n 0, 1) := by decide +kernel
theorem dX7_appendCharacter_38 : decode cX7_appendCharacter 38 = .ok (.dup, 1) := by decide +kernel
theorem dX7_appendCharacter_39 : decode cX7_appendCharacter 39 = .ok (.getfield 90, 3) := by decide +kernel
theorem dX7_appendCharacter_42 : decode cX7_appendCharacter 42 = .ok (.iconst 1, 1) := by decide +kernel
theorem dX7_appendCharacter_43 : decode cX7_appendCharacter 43 = .ok (.iadd, 1) := by decide +kernel
theorem dX7_appendCharacter_44 : decode cX7_appendCharacter 44 = .ok (.putfield 90, 3) := by decide +kernel
theorem dX7_appendCharacter_47 : decode cX7_appendCharacter 47 = .ok (.aload_n 0, 1) := by decide +kernel
theorem dX7_appendCharacter_48 : decode cX7_appendCharacter 48 = .ok (.getfield 90, 3) := by decide +kernel
theorem dX7_appendCharacter_51 : decode cX7_appendCharacter 51 = .ok (.ireturn, 1) := by decide +kernel
theorem dX7_clearText_0 : decode cX7_clearText 0 = .ok (.aload_n 0, 1) := by decide +kernel
theorem dX7_clearText_1 : decode cX7_clearText 1 = .ok (.getfield 90, 3) := by decide +kernel
theorem dX7_clearText_4 : decode cX7_clearText 4 = .ok (.istore_n 1, 1) := by decide +kernel
theorem dX7_clearText_5 : decode cX7_clearText 5 = .ok (.aload_n 0, 1) := by decide +kernel
theorem dX7_clearText_6 : decode cX7_clearText 6 = .ok (.iconst 0, 1) := by decide +kernel
theorem dX7_clearText_7 : decode cX7_clearText 7 = .ok (.putfield 90, 3) := by decide +kernel
theorem dX7_clearText_10 : decode cX7_clearText 10 = .ok (.iload_n 1, 1) := by decide +kernel
theorem dX7_clearText_11 : decode cX7_clearText 11 = .ok (.ireturn, 1) := by decide +kernel
theorem dX7_here_0 : decode cX7_here 0 = .ok (.aload_n 0, 1) := by decide +kernel
theorem dX7_here_1 : decode cX7_here 1 = .ok (.getfield 93, 3) := by decide +kernel
theorem dX7_here_4 : decode cX7_here 4 = .ok (.aload_n 0, 1) := by decide +kernel
theorem dX7_here_5 : decode cX7_here 5 = .ok (.getfield 90, 3) := by decide +kernel
theorem dX7_here_8 : decode cX7_here 8 = .ok (.if_icmp .ge 30, 3) := by decide +kernel
theorem dX7_here_11 : decode cX7_here 11 = .ok (.aload_n 0, 1) := by decide +kernel
theorem dX7_here_12 : decode cX7_here 12 = .ok (.getfield 16, 3) := by decide +kernel
theorem dX7_here_15 : decode cX7_here 15 = .ok (.aload_n 0, 1) := by decide +kernel
theorem dX7_here_16 : decode cX7_here 16 = .ok (.getfield 93, 3) := by decide +kernel
theorem dX7_here_19 : decode cX7_here 19 = .ok (.baload, 1) := by decide +kernel
theorem dX7_here_20 : decode cX7_here 20 = .ok (.bipush 32, 2) := by decide +kernel
theorem dX7_here_22 : decode cX7_here 22 = .ok (.if_icmp .ne 16, 3) := by decide +kernel
theorem dX7_here_25 : decode cX7_here 25 = .ok (.aload_n 0, 1) := by decide +kernel
theorem dX7_here_26 : decode cX7_here 26 = .ok (.dup, 1) := by decide +kernel
theorem dX7_here_27 : decode cX7_here 27 = .ok (.getfield 93, 3) := by decide +kernel
theorem dX7_here_30 : decode cX7_here 30 = .ok (.iconst 1, 1) := by decide +kernel
theorem dX7_here_31 : decode cX7_here 31 = .ok (.iadd, 1) := by decide +kernel
theorem dX7_here_32 : decode cX7_here 32 = .ok (.putfield 93, 3) := by decide +kernel
theorem dX7_here_35 : decode cX7_here 35 = .ok (.goto (-35), 3) := by decide +kernel
theorem dX7_here_38 : decode cX7_here 38 = .ok (.aload_n 0, 1) := by decide +kernel
theorem dX7_here_39 : decode cX7_here 39 = .ok (.getfield 93, 3) := by decide +kernel
theorem dX7_here_42 : decode cX7_here 42 = .ok (.aload_n 0, 1) := by decide +kernel
theorem dX7_here_43 : decode cX7_here 43 = .ok (.getfield 90, 3) := by decide +kernel
theorem dX7_here_46 : decode cX7_here 46 = .ok (.if_icmp .ge 19, 3) := by decide +kernel
theorem dX7_here_49 : decode cX7_here 49 = .ok (.aload_n 0, 1) := by decide +kernel
theorem dX7_here_50 : decode cX7_here 50 = .ok (.getfield 16, 3) := by decide +kernel
theorem dX7_here_53 : decode cX7_here 53 = .ok (.aload_n 0, 1) := by decide +kernel
theorem dX7_here_54 : decode cX7_here 54 = .ok (.getfield 93, 3) := by decide +kernel
theorem dX7_here_57 : decode cX7_here 57 = .ok (.baload, 1) := by decide +kernel
theorem dX7_here_58 : decode cX7_here 58 = .ok (.sipush 255, 3) := by decide +kernel
theorem dX7_here_61 : decode cX7_here 61 = .ok (.iand, 1) := by decide +kernel
theorem dX7_here_62 : decode cX7_here 62 = .ok (.goto 4, 3) := by decide +kernel
theorem dX7_here_65 : decode cX7_here 65 = .ok (.iconst (-1), 1) := by decide +kernel
theorem dX7_here_66 : decode cX7_here 66 = .ok (.ireturn, 1) := by decide +kernel
theorem dX7_reads_0 : decode cX7_reads 0 = .ok (.aload_n 0, 1) := by decide +kernel
theorem dX7_reads_1 : decode cX7_reads 1 = .ok (.invokevirtual 96, 3) := by decide +kernel
theorem dX7_reads_4 : decode cX7_reads 4 = .ok (.istore 4, 2) := by decide +kernel
theorem dX7_reads_6 : decode cX7_reads 6 = .ok (.aload_n 0, 1) := by decide +kernel
theorem dX7_reads_7 : decode cX7_reads 7 = .ok (.getfield 93, 3) := by decide +kernel
theorem dX7_reads_10 : decode cX7_reads 10 = .ok (.istore 5, 2) := by decide +kernel
theorem dX7_reads_12 : decode cX7_reads 12 = .ok (.iload_n 3, 1) := by decide +kernel
theorem dX7_reads_13 : decode cX7_reads 13 = .ok (.ifCond .eq 14, 3) := by decide +kernel
theorem dX7_reads_16 : decode cX7_reads 16 = .ok (.iload 4, 2) := by decide +kernel
theorem dX7_reads_18 : decode cX7_reads 18 = .ok (.bipush 45, 2) := by decide +kernel
theorem dX7_reads_20 : decode cX7_reads 20 = .ok (.if_icmp .ne 7, 3) := by decide +kernel
theorem dX7_reads_23 : decode cX7_reads 23 = .ok (.iconst 1, 1) := by decide +kernel
theorem dX7_reads_24 : decode cX7_reads 24 = .ok (.goto 4, 3) := by decide +kernel
theorem dX7_reads_27 : decode cX7_reads 27 = .ok (.iconst 0, 1) := by decide +kernel
theorem dX7_reads_28 : decode cX7_reads 28 = .ok (.istore 6, 2) := by decide +kernel
theorem dX7_reads_30 : decode cX7_reads 30 = .ok (.aload_n 0, 1) := by decide +kernel
theorem dX7_reads_31 : decode cX7_reads 31 = .ok (.dup, 1) := by decide +kernel
theorem dX7_reads_32 : decode cX7_reads 32 = .ok (.getfield 93, 3) := by decide +kernel
theorem dX7_reads_35 : decode cX7_reads 35 = .ok (.iload 6, 2) := by decide +kernel
theorem dX7_reads_37 : decode cX7_reads 37 = .ok (.ifCond .eq 7, 3) := by decide +kernel
theorem dX7_reads_40 : decode cX7_reads 40 = .ok (.iconst 1, 1) := by decide +kernel
theorem dX7_reads_41 : decode cX7_reads 41 = .ok (.goto 4, 3) := by decide +kernel
theorem dX7_reads_44 : decode cX7_reads 44 = .ok (.iconst 0, 1) := by decide +kernel
theorem dX7_reads_45 : decode cX7_reads 45 = .ok (.iadd, 1) := by decide +kernel
theorem dX7_reads_46 : decode cX7_reads 46 = .ok (.putfield 93, 3) := by decide +kernel
theorem dX7_reads_49 : decode cX7_reads 49 = .ok (.aload_n 0, 1) := by decide +kernel
theorem dX7_reads_50 : decode cX7_reads 50 = .ok (.getfield 93, 3) := by decide +kernel
theorem dX7_reads_53 : decode cX7_reads 53 = .ok (.istore 7, 2) := by decide +kernel
theorem dX7_reads_55 : decode cX7_reads 55 = .ok (.iconst 0, 1) := by decide +kernel
theorem dX7_reads_56 : decode cX7_reads 56 = .ok (.istore 8, 2) := by decide +kernel
theorem dX7_reads_58 : decode cX7_reads 58 = .ok (.aload_n 0, 1) := by decide +kernel
theorem dX7_reads_59 : decode cX7_reads 59 = .ok (.getfield 93, 3) := by decide +kernel
theorem dX7_reads_62 : decode cX7_reads 62 = .ok (.aload_n 0, 1) := by decide +kernel
theorem dX7_reads_63 : decode cX7_reads 63 = .ok (.getfield 90, 3) := by decide +kernel
theorem dX7_reads_66 : decode cX7_reads 66 = .ok (.if_icmp .ge 67, 3) := by decide +kernel
theorem dX7_reads_69 : decode cX7_reads 69 = .ok (.aload_n 0, 1) := by decide +kernel
theorem dX7_reads_70 : decode cX7_reads 70 = .ok (.getfield 16, 3) := by decide +kernel
theorem dX7_reads_73 : decode cX7_reads 73 = .ok (.aload_n 0, 1) := by decide +kernel
theorem dX7_reads_74 : decode cX7_reads 74 = .ok (.getfield 93, 3) := by decide +kernel
theorem dX7_reads_77 : decode cX7_reads 77 = .ok (.baload, 1) := by decide +kernel
theorem dX7_reads_78 : decode cX7_reads 78 = .ok (.bipush 48, 2) := by decide +kernel
theorem dX7_reads_80 : decode cX7_reads 80 = .ok (.bipush 57, 2) := by decide +kernel
theorem dX7_reads_82 : decode cX7_reads 82 = .ok (.invokestatic 35, 3) := by decide +kernel
theorem dX7_reads_85 : decode cX7_reads 85 = .ok (.ifCond .eq 48, 3) := by decide +kernel
theorem dX7_reads_88 : decode cX7_reads 88 = .ok (.iload 8, 2) := by decide +kernel
theorem dX7_reads_90 : decode cX7_reads 90 = .ok (.ldc 100, 2) := by decide +kernel
theorem dX7_reads_92 : decode cX7_reads 92 = .ok (.if_icmp .ge 24, 3) := by decide +kernel
theorem dX7_reads_95 : decode cX7_reads 95 = .ok (.bipush 10, 2) := by decide +kernel
theorem dX7_reads_97 : decode cX7_reads 97 = .ok (.iload 8, 2) := by decide +kernel
theorem dX7_reads_99 : decode cX7_reads 99 = .ok (.imul, 1) := by decide +kernel
theorem dX7_reads_100 : decode cX7_reads 100 = .ok (.aload_n 0, 1) := by decide +kernel
theorem dX7_reads_101 : decode cX7_reads 101 = .ok (.getfield 16, 3) := by decide +kernel
theorem dX7_reads_104 : decode cX7_reads 104 = .ok (.aload_n 0, 1) := by decide +kernel
theorem dX7_reads_105 : decode cX7_reads 105 = .ok (.getfield 93, 3) := by decide +kernel
theorem dX7_reads_108 : decode cX7_reads 108 = .ok (.baload, 1) := by decide +kernel
theorem dX7_reads_109 : decode cX7_reads 109 = .ok (.iadd, 1) := by decide +kernel
theorem dX7_reads_110 : decode cX7_reads 110 = .ok (.bipush 48, 2) := by decide +kernel
theorem dX7_reads_112 : decode cX7_reads 112 = .ok (.isub, 1) := by decide +kernel
theorem dX7_reads_113 : decode cX7_reads 113 = .ok (.goto 5, 3) := by decide +kernel
theorem dX7_reads_116 : decode cX7_reads 116 = .ok (.iload 8, 2) := by decide +kernel
theorem dX7_reads_118 : decode cX7_reads 118 = .ok (.istore 8, 2) := by decide +kernel
theorem dX7_reads_120 : decode cX7_reads 120 = .ok (.aload_n 0, 1) := by decide +kernel
theorem dX7_reads_121 : decode cX7_reads 121 = .ok (.dup, 1) := by decide +kernel
theorem dX7_reads_122 : decode cX7_reads 122 = .ok (.getfield 93, 3) := by decide +kernel
theorem dX7_reads_125 : decode cX7_reads 125 = .ok (.iconst 1, 1) := by decide +kernel
theorem dX7_reads_126 : decode cX7_reads 126 = .ok (.iadd, 1) := by decide +kernel
theorem dX7_reads_127 : decode cX7_reads 127 = .ok (.putfield 93, 3) := by decide +kernel
theorem dX7_reads_130 : decode cX7_reads 130 = .ok (.goto (-72), 3) := by decide +kernel
theorem dX7_reads_133 : decode cX7_reads 133 = .ok (.aload_n 0, 1) := by decide +kernel
theorem dX7_reads_134 : decode cX7_reads 134 = .ok (.getfield 93, 3) := by decide +kernel
theorem dX7_reads_137 : decode cX7_reads 137 = .ok (.iload 7, 2) := by decide +kernel
theorem dX7_reads_139 : decode cX7_reads 139 = .ok (.if_icmp .ne 5, 3) := by decide +kernel
theorem dX7_reads_142 : decode cX7_reads 142 = .ok (.iconst 0, 1) := by decide +kernel
theorem dX7_reads_143 : decode cX7_reads 143 = .ok (.ireturn, 1) := by decide +kernel
theorem dX7_reads_144 : decode cX7_reads 144 = .ok (.aload_n 0, 1) := by decide +kernel
theorem dX7_reads_145 : decode cX7_reads 145 = .ok (.iload 6, 2) := by decide +kernel
theorem dX7_reads_147 : decode cX7_reads 147 = .ok (.ifCond .eq 9, 3) := by decide +kernel
theorem dX7_reads_150 : decode cX7_reads 150 = .ok (.iload 8, 2) := by decide +kernel
theorem dX7_reads_152 : decode cX7_reads 152 = .ok (.ineg, 1) := by decide +kernel
theorem dX7_reads_153 : decode cX7_reads 153 = .ok (.goto 5, 3) := by decide +kernel
theorem dX7_reads_156 : decode cX7_reads 156 = .ok (.iload 8, 2) := by decide +kernel
theorem dX7_reads_158 : decode cX7_reads 158 = .ok (.putfield 101, 3) := by decide +kernel
theorem dX7_reads_161 : decode cX7_reads 161 = .ok (.aload_n 0, 1) := by decide +kernel
theorem dX7_reads_162 : decode cX7_reads 162 = .ok (.getfield 16, 3) := by decide +kernel
theorem dX7_reads_165 : decode cX7_reads 165 = .ok (.iload 7, 2) := by decide +kernel
theorem dX7_reads_167 : decode cX7_reads 167 = .ok (.baload, 1) := by decide +kernel
theorem dX7_reads_168 : decode cX7_reads 168 = .ok (.bipush 48, 2) := by decide +kernel
theorem dX7_reads_170 : decode cX7_reads 170 = .ok (.if_icmp .ne 14, 3) := by decide +kernel
theorem dX7_reads_173 : decode cX7_reads 173 = .ok (.aload_n 0, 1) := by decide +kernel
theorem dX7_reads_174 : decode cX7_reads 174 = .ok (.getfield 93, 3) := by decide +kernel
theorem dX7_reads_177 : decode cX7_reads 177 = .ok (.iload 7, 2) := by decide +kernel
theorem dX7_reads_179 : decode cX7_reads 179 = .ok (.iconst 1, 1) := by decide +kernel
theorem dX7_reads_180 : decode cX7_reads 180 = .ok (.iadd, 1) := by decide +kernel
theorem dX7_reads_181 : decode cX7_reads 181 = .ok (.if_icmp .ne 19, 3) := by decide +kernel
theorem dX7_reads_184 : decode cX7_reads 184 = .ok (.aload_n 0, 1) := by decide +kernel
theorem dX7_reads_185 : decode cX7_reads 185 = .ok (.getfield 101, 3) := by decide +kernel
theorem dX7_reads_188 : decode cX7_reads 188 = .ok (.iload_n 1, 1) := by decide +kernel
theorem dX7_reads_189 : decode cX7_reads 189 = .ok (.iload_n 2, 1) := by decide +kernel
theorem dX7_reads_190 : decode cX7_reads 190 = .ok (.invokestatic 35, 3) := by decide +kernel
theorem dX7_reads_193 : decode cX7_reads 193 = .ok (.ifCond .eq 7, 3) := by decide +kernel
theorem dX7_reads_196 : decode cX7_reads 196 = .ok (.iconst 1, 1) := by decide +kernel
theorem dX7_reads_197 : decode cX7_reads 197 = .ok (.goto 4, 3) := by decide +kernel
theorem dX7_reads_200 : decode cX7_reads 200 = .ok (.iconst 0, 1) := by decide +kernel
theorem dX7_reads_201 : decode cX7_reads 201 = .ok (.istore 9, 2) := by decide +kernel
theorem dX7_reads_203 : decode cX7_reads 203 = .ok (.aload_n 0, 1) := by decide +kernel
theorem dX7_reads_204 : decode cX7_reads 204 = .ok (.iload 9, 2) := by decide +kernel
theorem dX7_reads_206 : decode cX7_reads 206 = .ok (.ifCond .eq 10, 3) := by decide +kernel
theorem dX7_reads_209 : decode cX7_reads 209 = .ok (.aload_n 0, 1) := by decide +kernel
theorem dX7_reads_210 : decode cX7_reads 210 = .ok (.getfield 93, 3) := by decide +kernel
theorem dX7_reads_213 : decode cX7_reads 213 = .ok (.goto 5, 3) := by decide +kernel
theorem dX7_reads_216 : decode cX7_reads 216 = .ok (.iload 5, 2) := by decide +kernel
theorem dX7_reads_218 : decode cX7_reads 218 = .ok (.putfield 93, 3) := by decide +kernel
theorem dX7_reads_221 : decode cX7_reads 221 = .ok (.iload 9, 2) := by decide +kernel
theorem dX7_reads_223 : decode cX7_reads 223 = .ok (.ireturn, 1) := by decide +kernel
theorem dX7_readsAll_0 : decode cX7_readsAll 0 = .ok (.aload_n 0, 1) := by decide +kernel
theorem dX7_readsAll_1 : decode cX7_readsAll 1 = .ok (.iconst 0, 1) := by decide +kernel
theorem dX7_readsAll_2 : decode cX7_readsAll 2 = .ok (.putfield 93, 3) := by decide +kernel
theorem dX7_readsAll_5 : decode cX7_readsAll 5 = .ok (.aload_n 0, 1) := by decide +kernel
theorem dX7_readsAll_6 : decode cX7_readsAll 6 = .ok (.iconst 0, 1) := by decide +kernel
theorem dX7_readsAll_7 : decode cX7_readsAll 7 = .ok (.putfield 104, 3) := by decide +kernel
theorem dX7_readsAll_10 : decode cX7_readsAll 10 = .ok (.aload_n 0, 1) := by decide +kernel
theorem dX7_readsAll_11 : decode cX7_readsAll 11 = .ok (.invokevirtual 96, 3) := by decide +kernel
theorem dX7_readsAll_14 : decode cX7_readsAll 14 = .ok (.ifCond .lt 7, 3) := by decide +kernel
theorem dX7_readsAll_17 : decode cX7_readsAll 17 = .ok (.iconst 1, 1) := by decide +kernel
theorem dX7_readsAll_18 : decode cX7_readsAll 18 = .ok (.goto 4, 3) := by decide +kernel
theorem dX7_readsAll_21 : decode cX7_readsAll 21 = .ok (.iconst 0, 1) := by decide +kernel
theorem dX7_readsAll_22 : decode cX7_readsAll 22 = .ok (.istore_n 1, 1) := by decide +kernel
theorem dX7_readsAll_23 : decode cX7_readsAll 23 = .ok (.iload_n 1, 1) := by decide +kernel
theorem dX7_readsAll_24 : decode cX7_readsAll 24 = .ok (.ifCond .eq 186, 3) := by decide +kernel
theorem dX7_readsAll_27 : decode cX7_readsAll 27 = .ok (.aload_n 0, 1) := by decide +kernel
theorem dX7_readsAll_28 : decode cX7_readsAll 28 = .ok (.getfield 104, 3) := by decide +kernel
theorem dX7_readsAll_31 : decode cX7_readsAll 31 = .ok (.ifCond .ne 7, 3) := by decide +kernel
theorem dX7_readsAll_34 : decode cX7_readsAll 34 = .ok (.iconst 0, 1) := by decide +kernel
theorem dX7_readsAll_35 : decode cX7_readsAll 35 = .ok (.goto 18, 3) := by decide +kernel
theorem dX7_readsAll_38 : decode cX7_readsAll 38 = .ok (.aload_n 0, 1) := by decide +kernel
theorem dX7_readsAll_39 : decode cX7_readsAll 39 = .ok (.getfield 23, 3) := by decide +kernel
theorem dX7_readsAll_42 : decode cX7_readsAll 42 = .ok (.iconst 2, 1) := by decide +kernel
theorem dX7_readsAll_43 : decode cX7_readsAll 43 = .ok (.aload_n 0, 1) := by decide +kernel
theorem dX7_readsAll_44 : decode cX7_readsAll 44 = .ok (.getfield 104, 3) := by decide +kernel
theorem dX7_readsAll_47 : decode cX7_readsAll 47 = .ok (.imul, 1) := by decide +kernel
theorem dX7_readsAll_48 : decode cX7_readsAll 48 = .ok (.iconst 2, 1) := by decide +kernel
theorem dX7_readsAll_49 : decode cX7_readsAll 49 = .ok (.isub, 1) := by decide +kernel
theorem dX7_readsAll_50 : decode cX7_readsAll 50 = .ok (.iaload, 1) := by decide +kernel
theorem dX7_readsAll_51 : decode cX7_readsAll 51 = .ok (.iconst 1, 1) := by decide +kernel
theorem dX7_readsAll_52 : decode cX7_readsAll 52 = .ok (.iadd, 1) := by decide +kernel
theorem dX7_readsAll_53 : decode cX7_readsAll 53 = .ok (.istore_n 2, 1) := by decide +kernel
theorem dX7_readsAll_54 : decode cX7_readsAll 54 = .ok (.aload_n 0, 1) := by decide +kernel
theorem dX7_readsAll_55 : decode cX7_readsAll 55 = .ok (.aload_n 0, 1) := by decide +kernel
theorem dX7_readsAll_56 : decode cX7_readsAll 56 = .ok (.getfield 104, 3) := by decide +kernel
theorem dX7_readsAll_59 : decode cX7_readsAll 59 = .ok (.bipush 12, 2) := by decide +kernel
theorem dX7_readsAll_61 : decode cX7_readsAll 61 = .ok (.if_icmp .ne 8, 3) := by decide +kernel
theorem dX7_readsAll_64 : decode cX7_readsAll 64 = .ok (.ldc 100, 2) := by decide +kernel
theorem dX7_readsAll_66 : decode cX7_readsAll 66 = .ok (.goto 4, 3) := by decide +kernel
theorem dX7_readsAll_69 : decode cX7_readsAll 69 = .ok (.iload_n 2, 1) := by decide +kernel
theorem dX7_readsAll_70 : decode cX7_readsAll 70 = .ok (.sipush 9999, 3) := by decide +kernel
theorem dX7_readsAll_73 : decode cX7_readsAll 73 = .ok (.iconst 0, 1) := by decide +kernel
theorem dX7_readsAll_74 : decode cX7_readsAll 74 = .ok (.invokevirtual 107, 3) := by decide +kernel
theorem dX7_readsAll_77 : decode cX7_readsAll 77 = .ok (.ifCond .ne 5, 3) := by decide +kernel
theorem dX7_readsAll_80 : decode cX7_readsAll 80 = .ok (.iconst 0, 1) := by decide +kernel
theorem dX7_readsAll_81 : decode cX7_readsAll 81 = .ok (.ireturn, 1) := by decide +kernel
theorem dX7_readsAll_82 : decode cX7_readsAll 82 = .ok (.aload_n 0, 1) := by decide +kernel
theorem dX7_readsAll_83 : decode cX7_readsAll 83 = .ok (.getfield 101, 3) := by decide +kernel
theorem dX7_readsAll_86 : decode cX7_readsAll 86 = .ok (.istore_n 3, 1) := by decide +kernel
theorem dX7_readsAll_87 : decode cX7_readsAll 87 = .ok (.aload_n 0, 1) := by decide +kernel
theorem dX7_readsAll_88 : decode cX7_readsAll 88 = .ok (.invokevirtual 96, 3) := by decide +kernel
theorem dX7_readsAll_91 : decode cX7_readsAll 91 = .ok (.bipush 61, 2) := by decide +kernel
theorem dX7_readsAll_93 : decode cX7_readsAll 93 = .ok (.if_icmp .eq 5, 3) := by decide +kernel
theorem dX7_readsAll_96 : decode cX7_readsAll 96 = .ok (.iconst 0, 1) := by decide +kernel
theorem dX7_readsAll_97 : decode cX7_readsAll 97 = .ok (.ireturn, 1) := by decide +kernel
theorem dX7_readsAll_98 : decode cX7_readsAll 98 = .ok (.aload_n 0, 1) := by decide +kernel
theorem dX7_readsAll_99 : decode cX7_readsAll 99 = .ok (.dup, 1) := by decide +kernel
theorem dX7_readsAll_100 : decode cX7_readsAll 100 = .ok (.getfield 93, 3) := by decide +kernel
theorem dX7_readsAll_103 : decode cX7_readsAll 103 = .ok (.iconst 1, 1) := by decide +kernel
theorem dX7_readsAll_104 : decode cX7_readsAll 104 = .ok (.iadd, 1) := by decide +kernel
theorem dX7_readsAll_105 : decode cX7_readsAll 105 = .ok (.putfield 93, 3) := by decide +kernel
theorem dX7_readsAll_108 : decode cX7_readsAll 108 = .ok (.aload_n 0, 1) := by decide +kernel
theorem dX7_readsAll_109 : decode cX7_readsAll 109 = .ok (.bipush (-40), 2) := by decide +kernel
theorem dX7_readsAll_111 : decode cX7_readsAll 111 = .ok (.bipush 40, 2) := by decide +kernel
theorem dX7_readsAll_113 : decode cX7_readsAll 113 = .ok (.iconst 1, 1) := by decide +kernel
theorem dX7_readsAll_114 : decode cX7_readsAll 114 = .ok (.invokevirtual 107, 3) := by decide +kernel
theorem dX7_readsAll_117 : decode cX7_readsAll 117 = .ok (.ifCond .ne 5, 3) := by decide +kernel
theorem dX7_readsAll_120 : decode cX7_readsAll 120 = .ok (.iconst 0, 1) := by decide +kernel
theorem dX7_readsAll_121 : decode cX7_readsAll 121 = .ok (.ireturn, 1) := by decide +kernel
theorem dX7_readsAll_122 : decode cX7_readsAll 122 = .ok (.aload_n 0, 1) := by decide +kernel
theorem dX7_readsAll_123 : decode cX7_readsAll 123 = .ok (.getfield 23, 3) := by decide +kernel
theorem dX7_readsAll_126 : decode cX7_readsAll 126 = .ok (.iconst 2, 1) := by decide +kernel
theorem dX7_readsAll_127 : decode cX7_readsAll 127 = .ok (.aload_n 0, 1) := by decide +kernel
theorem dX7_readsAll_128 : decode cX7_readsAll 128 = .ok (.getfield 104, 3) := by decide +kernel
theorem dX7_readsAll_131 : decode cX7_readsAll 131 = .ok (.imul, 1) := by decide +kernel
theorem dX7_readsAll_132 : decode cX7_readsAll 132 = .ok (.iload_n 3, 1) := by decide +kernel
theorem dX7_readsAll_133 : decode cX7_readsAll 133 = .ok (.iastore, 1) := by decide +kernel
theorem dX7_readsAll_134 : decode cX7_readsAll 134 = .ok (.aload_n 0, 1) := by decide +kernel
theorem dX7_readsAll_135 : decode cX7_readsAll 135 = .ok (.getfield 23, 3) := by decide +kernel
theorem dX7_readsAll_138 : decode cX7_readsAll 138 = .ok (.iconst 2, 1) := by decide +kernel
theorem dX7_readsAll_139 : decode cX7_readsAll 139 = .ok (.aload_n 0, 1) := by decide +kernel
theorem dX7_readsAll_140 : decode cX7_readsAll 140 = .ok (.getfield 104, 3) := by decide +kernel
theorem dX7_readsAll_143 : decode cX7_readsAll 143 = .ok (.imul, 1) := by decide +kernel
theorem dX7_readsAll_144 : decode cX7_readsAll 144 = .ok (.iconst 1, 1) := by decide +kernel
theorem dX7_readsAll_145 : decode cX7_readsAll 145 = .ok (.iadd, 1) := by decide +kernel
theorem dX7_readsAll_146 : decode cX7_readsAll 146 = .ok (.aload_n 0, 1) := by decide +kernel
theorem dX7_readsAll_147 : decode cX7_readsAll 147 = .ok (.getfield 101, 3) := by decide +kernel
theorem dX7_readsAll_150 : decode cX7_readsAll 150 = .ok (.iastore, 1) := by decide +kernel
theorem dX7_readsAll_151 : decode cX7_readsAll 151 = .ok (.aload_n 0, 1) := by decide +kernel
theorem dX7_readsAll_152 : decode cX7_readsAll 152 = .ok (.dup, 1) := by decide +kernel
theorem dX7_readsAll_153 : decode cX7_readsAll 153 = .ok (.getfield 104, 3) := by decide +kernel
theorem dX7_readsAll_156 : decode cX7_readsAll 156 = .ok (.iconst 1, 1) := by decide +kernel
theorem dX7_readsAll_157 : decode cX7_readsAll 157 = .ok (.iadd, 1) := by decide +kernel
theorem dX7_readsAll_158 : decode cX7_readsAll 158 = .ok (.putfield 104, 3) := by decide +kernel
theorem dX7_readsAll_161 : decode cX7_readsAll 161 = .ok (.aload_n 0, 1) := by decide +kernel
theorem dX7_readsAll_162 : decode cX7_readsAll 162 = .ok (.invokevirtual 96, 3) := by decide +kernel
theorem dX7_readsAll_165 : decode cX7_readsAll 165 = .ok (.ifCond .lt 7, 3) := by decide +kernel
theorem dX7_readsAll_168 : decode cX7_readsAll 168 = .ok (.iconst 1, 1) := by decide +kernel
theorem dX7_readsAll_169 : decode cX7_readsAll 169 = .ok (.goto 4, 3) := by decide +kernel
theorem dX7_readsAll_172 : decode cX7_readsAll 172 = .ok (.iconst 0, 1) := by decide +kernel
theorem dX7_readsAll_173 : decode cX7_readsAll 173 = .ok (.istore_n 1, 1) := by decide +kernel
theorem dX7_readsAll_174 : decode cX7_readsAll 174 = .ok (.iload_n 1, 1) := by decide +kernel
theorem dX7_readsAll_175 : decode cX7_readsAll 175 = .ok (.ifCond .eq 14, 3) := by decide +kernel
theorem dX7_readsAll_178 : decode cX7_readsAll 178 = .ok (.aload_n 0, 1) := by decide +kernel
theorem dX7_readsAll_179 : decode cX7_readsAll 179 = .ok (.invokevirtual 96, 3) := by decide +kernel
theorem dX7_readsAll_182 : decode cX7_readsAll 182 = .ok (.bipush 59, 2) := by decide +kernel
theorem dX7_readsAll_184 : decode cX7_readsAll 184 = .ok (.if_icmp .eq 5, 3) := by decide +kernel
theorem dX7_readsAll_187 : decode cX7_readsAll 187 = .ok (.iconst 0, 1) := by decide +kernel
theorem dX7_readsAll_188 : decode cX7_readsAll 188 = .ok (.ireturn, 1) := by decide +kernel
theorem dX7_readsAll_189 : decode cX7_readsAll 189 = .ok (.aload_n 0, 1) := by decide +kernel
theorem dX7_readsAll_190 : decode cX7_readsAll 190 = .ok (.dup, 1) := by decide +kernel
theorem dX7_readsAll_191 : decode cX7_readsAll 191 = .ok (.getfield 93, 3) := by decide +kernel
theorem dX7_readsAll_194 : decode cX7_readsAll 194 = .ok (.iload_n 1, 1) := by decide +kernel
theorem dX7_readsAll_195 : decode cX7_readsAll 195 = .ok (.ifCond .eq 7, 3) := by decide +kernel
theorem dX7_readsAll_198 : decode cX7_readsAll 198 = .ok (.iconst 1, 1) := by decide +kernel
theorem dX7_readsAll_199 : decode cX7_readsAll 199 = .ok (.goto 4, 3) := by decide +kernel
theorem dX7_readsAll_202 : decode cX7_readsAll 202 = .ok (.iconst 0, 1) := by decide +kernel
theorem dX7_readsAll_203 : decode cX7_readsAll 203 = .ok (.iadd, 1) := by decide +kernel
theorem dX7_readsAll_204 : decode cX7_readsAll 204 = .ok (.putfield 93, 3) := by decide +kernel
theorem dX7_readsAll_207 : decode cX7_readsAll 207 = .ok (.goto (-184), 3) := by decide +kernel
theorem dX7_readsAll_210 : decode cX7_readsAll 210 = .ok (.iconst 1, 1) := by decide +kernel
theorem dX7_readsAll_211 : decode cX7_readsAll 211 = .ok (.ireturn, 1) := by decide +kernel
theorem dX7_load_0 : decode cX7_load 0 = .ok (.aload_n 0, 1) := by decide +kernel
theorem dX7_load_1 : decode cX7_load 1 = .ok (.invokevirtual 111, 3) := by decide +kernel
theorem dX7_load_4 : decode cX7_load 4 = .ok (.ifCond .ne 11, 3) := by decide +kernel
theorem dX7_load_7 : decode cX7_load 7 = .ok (.bipush (-10), 2) := by decide +kernel
theorem dX7_load_9 : decode cX7_load 9 = .ok (.aload_n 0, 1) := by decide +kernel
theorem dX7_load_10 : decode cX7_load 10 = .ok (.getfield 93, 3) := by decide +kernel
theorem dX7_load_13 : decode cX7_load 13 = .ok (.isub, 1) := by decide +kernel
theorem dX7_load_14 : decode cX7_load 14 = .ok (.ireturn, 1) := by decide +kernel
theorem dX7_load_15 : decode cX7_load 15 = .ok (.aload_n 0, 1) := by decide +kernel
theorem dX7_load_16 : decode cX7_load 16 = .ok (.invokevirtual 48, 3) := by decide +kernel
theorem dX7_load_19 : decode cX7_load 19 = .ok (.aload_n 0, 1) := by decide +kernel
theorem dX7_load_20 : decode cX7_load 20 = .ok (.getfield 7, 3) := by decide +kernel
theorem dX7_load_23 : decode cX7_load 23 = .ok (.bipush 9, 2) := by decide +kernel
theorem dX7_load_25 : decode cX7_load 25 = .ok (.aload_n 0, 1) := by decide +kernel
theorem dX7_load_26 : decode cX7_load 26 = .ok (.getfield 104, 3) := by decide +kernel
theorem dX7_load_29 : decode cX7_load 29 = .ok (.iastore, 1) := by decide +kernel
theorem dX7_load_30 : decode cX7_load 30 = .ok (.iconst 0, 1) := by decide +kernel
theorem dX7_load_31 : decode cX7_load 31 = .ok (.istore_n 1, 1) := by decide +kernel
theorem dX7_load_32 : decode cX7_load 32 = .ok (.iload_n 1, 1) := by decide +kernel
theorem dX7_load_33 : decode cX7_load 33 = .ok (.bipush 24, 2) := by decide +kernel
theorem dX7_load_35 : decode cX7_load 35 = .ok (.if_icmp .ge 38, 3) := by decide +kernel
theorem dX7_load_38 : decode cX7_load 38 = .ok (.aload_n 0, 1) := by decide +kernel
theorem dX7_load_39 : decode cX7_load 39 = .ok (.getfield 7, 3) := by decide +kernel
theorem dX7_load_42 : decode cX7_load 42 = .ok (.bipush 10, 2) := by decide +kernel
theorem dX7_load_44 : decode cX7_load 44 = .ok (.iload_n 1, 1) := by decide +kernel
theorem dX7_load_45 : decode cX7_load 45 = .ok (.iadd, 1) := by decide +kernel
theorem dX7_load_46 : decode cX7_load 46 = .ok (.iload_n 1, 1) := by decide +kernel
theorem dX7_load_47 : decode cX7_load 47 = .ok (.iconst 2, 1) := by decide +kernel
theorem dX7_load_48 : decode cX7_load 48 = .ok (.aload_n 0, 1) := by decide +kernel
theorem dX7_load_49 : decode cX7_load 49 = .ok (.getfield 104, 3) := by decide +kernel
theorem dX7_load_52 : decode cX7_load 52 = .ok (.imul, 1) := by decide +kernel
theorem dX7_load_53 : decode cX7_load 53 = .ok (.if_icmp .ge 12, 3) := by decide +kernel
theorem dX7_load_56 : decode cX7_load 56 = .ok (.aload_n 0, 1) := by decide +kernel
theorem dX7_load_57 : decode cX7_load 57 = .ok (.getfield 23, 3) := by decide +kernel
theorem dX7_load_60 : decode cX7_load 60 = .ok (.iload_n 1, 1) := by decide +kernel
theorem dX7_load_61 : decode cX7_load 61 = .ok (.iaload, 1) := by decide +kernel
theorem dX7_load_62 : decode cX7_load 62 = .ok (.goto 4, 3) := by decide +kernel
theorem dX7_load_65 : decode cX7_load 65 = .ok (.iconst 0, 1) := by decide +kernel
theorem dX7_load_66 : decode cX7_load 66 = .ok (.iastore, 1) := by decide +kernel
theorem dX7_load_67 : decode cX7_load 67 = .ok (.iinc 1 1, 3) := by decide +kernel
theorem dX7_load_70 : decode cX7_load 70 = .ok (.goto (-38), 3) := by decide +kernel
theorem dX7_load_73 : decode cX7_load 73 = .ok (.aload_n 0, 1) := by decide +kernel
theorem dX7_load_74 : decode cX7_load 74 = .ok (.iconst 0, 1) := by decide +kernel
theorem dX7_load_75 : decode cX7_load 75 = .ok (.putfield 90, 3) := by decide +kernel
theorem dX7_load_78 : decode cX7_load 78 = .ok (.aload_n 0, 1) := by decide +kernel
theorem dX7_load_79 : decode cX7_load 79 = .ok (.getfield 104, 3) := by decide +kernel
theorem dX7_load_82 : decode cX7_load 82 = .ok (.ireturn, 1) := by decide +kernel
theorem dX7_air_0 : decode cX7_air 0 = .ok (.aload_n 0, 1) := by decide +kernel
theorem dX7_air_1 : decode cX7_air 1 = .ok (.getfield 7, 3) := by decide +kernel
theorem dX7_air_4 : decode cX7_air 4 = .ok (.bipush 9, 2) := by decide +kernel
theorem dX7_air_6 : decode cX7_air 6 = .ok (.iaload, 1) := by decide +kernel
theorem dX7_air_7 : decode cX7_air 7 = .ok (.istore_n 2, 1) := by decide +kernel
theorem dX7_air_8 : decode cX7_air 8 = .ok (.iconst 0, 1) := by decide +kernel
theorem dX7_air_9 : decode cX7_air 9 = .ok (.istore_n 3, 1) := by decide +kernel
theorem dX7_air_10 : decode cX7_air 10 = .ok (.iload_n 3, 1) := by decide +kernel
theorem dX7_air_11 : decode cX7_air 11 = .ok (.iload_n 2, 1) := by decide +kernel
theorem dX7_air_12 : decode cX7_air 12 = .ok (.if_icmp .ge 24, 3) := by decide +kernel
theorem dX7_air_15 : decode cX7_air 15 = .ok (.aload_n 0, 1) := by decide +kernel
theorem dX7_air_16 : decode cX7_air 16 = .ok (.getfield 7, 3) := by decide +kernel
theorem dX7_air_19 : decode cX7_air 19 = .ok (.bipush 10, 2) := by decide +kernel
theorem dX7_air_21 : decode cX7_air 21 = .ok (.iconst 2, 1) := by decide +kernel
theorem dX7_air_22 : decode cX7_air 22 = .ok (.iload_n 3, 1) := by decide +kernel
theorem dX7_air_23 : decode cX7_air 23 = .ok (.imul, 1) := by decide +kernel
theorem dX7_air_24 : decode cX7_air 24 = .ok (.iadd, 1) := by decide +kernel
theorem dX7_air_25 : decode cX7_air 25 = .ok (.iaload, 1) := by decide +kernel
theorem dX7_air_26 : decode cX7_air 26 = .ok (.iload_n 1, 1) := by decide +kernel
theorem dX7_air_27 : decode cX7_air 27 = .ok (.if_icmp .gt 9, 3) := by decide +kernel
theorem dX7_air_30 : decode cX7_air 30 = .ok (.iinc 3 1, 3) := by decide +kernel
theorem dX7_air_33 : decode cX7_air 33 = .ok (.goto (-23), 3) := by decide +kernel
theorem dX7_air_36 : decode cX7_air 36 = .ok (.iload_n 2, 1) := by decide +kernel
theorem dX7_air_37 : decode cX7_air 37 = .ok (.ifCond .ne 5, 3) := by decide +kernel
theorem dX7_air_40 : decode cX7_air 40 = .ok (.iconst 0, 1) := by decide +kernel
theorem dX7_air_41 : decode cX7_air 41 = .ok (.ireturn, 1) := by decide +kernel
theorem dX7_air_42 : decode cX7_air 42 = .ok (.iload_n 3, 1) := by decide +kernel
theorem dX7_air_43 : decode cX7_air 43 = .ok (.ifCond .eq 8, 3) := by decide +kernel
theorem dX7_air_46 : decode cX7_air 46 = .ok (.iload_n 3, 1) := by decide +kernel
theorem dX7_air_47 : decode cX7_air 47 = .ok (.iload_n 2, 1) := by decide +kernel
theorem dX7_air_48 : decode cX7_air 48 = .ok (.if_icmp .ne 31, 3) := by decide +kernel
theorem dX7_air_51 : decode cX7_air 51 = .ok (.sipush 1000, 3) := by decide +kernel
theorem dX7_air_54 : decode cX7_air 54 = .ok (.aload_n 0, 1) := by decide +kernel
theorem dX7_air_55 : decode cX7_air 55 = .ok (.getfield 7, 3) := by decide +kernel
theorem dX7_air_58 : decode cX7_air 58 = .ok (.bipush 10, 2) := by decide +kernel
theorem dX7_air_60 : decode cX7_air 60 = .ok (.iconst 2, 1) := by decide +kernel
theorem dX7_air_61 : decode cX7_air 61 = .ok (.iload_n 3, 1) := by decide +kernel
theorem dX7_air_62 : decode cX7_air 62 = .ok (.ifCond .ne 7, 3) := by decide +kernel
theorem dX7_air_65 : decode cX7_air 65 = .ok (.iconst 0, 1) := by decide +kernel
theorem dX7_air_66 : decode cX7_air 66 = .ok (.goto 6, 3) := by decide +kernel
theorem dX7_air_69 : decode cX7_air 69 = .ok (.iload_n 2, 1) := by decide +kernel
theorem dX7_air_70 : decode cX7_air 70 = .ok (.iconst 1, 1) := by decide +kernel
theorem dX7_air_71 : decode cX7_air 71 = .ok (.isub, 1) := by decide +kernel
theorem dX7_air_72 : decode cX7_air 72 = .ok (.imul, 1) := by decide +kernel
theorem dX7_air_73 : decode cX7_air 73 = .ok (.iadd, 1) := by decide +kernel
theorem dX7_air_74 : decode cX7_air 74 = .ok (.iconst 1, 1) := by decide +kernel
theorem dX7_air_75 : decode cX7_air 75 = .ok (.iadd, 1) := by decide +kernel
theorem dX7_air_76 : decode cX7_air 76 = .ok (.iaload, 1) := by decide +kernel
theorem dX7_air_77 : decode cX7_air 77 = .ok (.imul, 1) := by decide +kernel
theorem dX7_air_78 : decode cX7_air 78 = .ok (.ireturn, 1) := by decide +kernel
theorem dX7_air_79 : decode cX7_air 79 = .ok (.bipush 10, 2) := by decide +kernel
theorem dX7_air_81 : decode cX7_air 81 = .ok (.iconst 2, 1) := by decide +kernel
theorem dX7_air_82 : decode cX7_air 82 = .ok (.iload_n 3, 1) := by decide +kernel
theorem dX7_air_83 : decode cX7_air 83 = .ok (.imul, 1) := by decide +kernel
theorem dX7_air_84 : decode cX7_air 84 = .ok (.iadd, 1) := by decide +kernel
theorem dX7_air_85 : decode cX7_air 85 = .ok (.iconst 2, 1) := by decide +kernel
theorem dX7_air_86 : decode cX7_air 86 = .ok (.isub, 1) := by decide +kernel
theorem dX7_air_87 : decode cX7_air 87 = .ok (.istore 4, 2) := by decide +kernel
theorem dX7_air_89 : decode cX7_air 89 = .ok (.sipush 1000, 3) := by decide +kernel
theorem dX7_air_92 : decode cX7_air 92 = .ok (.aload_n 0, 1) := by decide +kernel
theorem dX7_air_93 : decode cX7_air 93 = .ok (.getfield 7, 3) := by decide +kernel
theorem dX7_air_96 : decode cX7_air 96 = .ok (.iload 4, 2) := by decide +kernel
theorem dX7_air_98 : decode cX7_air 98 = .ok (.iconst 1, 1) := by decide +kernel
theorem dX7_air_99 : decode cX7_air 99 = .ok (.iadd, 1) := by decide +kernel
theorem dX7_air_100 : decode cX7_air 100 = .ok (.iaload, 1) := by decide +kernel
theorem dX7_air_101 : decode cX7_air 101 = .ok (.imul, 1) := by decide +kernel
theorem dX7_air_102 : decode cX7_air 102 = .ok (.sipush 1000, 3) := by decide +kernel
theorem dX7_air_105 : decode cX7_air 105 = .ok (.aload_n 0, 1) := by decide +kernel
theorem dX7_air_106 : decode cX7_air 106 = .ok (.getfield 7, 3) := by decide +kernel
theorem dX7_air_109 : decode cX7_air 109 = .ok (.iload 4, 2) := by decide +kernel
theorem dX7_air_111 : decode cX7_air 111 = .ok (.iconst 3, 1) := by decide +kernel
theorem dX7_air_112 : decode cX7_air 112 = .ok (.iadd, 1) := by decide +kernel
theorem dX7_air_113 : decode cX7_air 113 = .ok (.iaload, 1) := by decide +kernel
theorem dX7_air_114 : decode cX7_air 114 = .ok (.aload_n 0, 1) := by decide +kernel
theorem dX7_air_115 : decode cX7_air 115 = .ok (.getfield 7, 3) := by decide +kernel
theorem dX7_air_118 : decode cX7_air 118 = .ok (.iload 4, 2) := by decide +kernel
theorem dX7_air_120 : decode cX7_air 120 = .ok (.iconst 1, 1) := by decide +kernel
theorem dX7_air_121 : decode cX7_air 121 = .ok (.iadd, 1) := by decide +kernel
theorem dX7_air_122 : decode cX7_air 122 = .ok (.iaload, 1) := by decide +kernel
theorem dX7_air_123 : decode cX7_air 123 = .ok (.isub, 1) := by decide +kernel
theorem dX7_air_124 : decode cX7_air 124 = .ok (.imul, 1) := by decide +kernel
theorem dX7_air_125 : decode cX7_air 125 = .ok (.iload_n 1, 1) := by decide +kernel
theorem dX7_air_126 : decode cX7_air 126 = .ok (.aload_n 0, 1) := by decide +kernel
theorem dX7_air_127 : decode cX7_air 127 = .ok (.getfield 7, 3) := by decide +kernel
theorem dX7_air_130 : decode cX7_air 130 = .ok (.iload 4, 2) := by decide +kernel
theorem dX7_air_132 : decode cX7_air 132 = .ok (.iaload, 1) := by decide +kernel
theorem dX7_air_133 : decode cX7_air 133 = .ok (.isub, 1) := by decide +kernel
theorem dX7_air_134 : decode cX7_air 134 = .ok (.imul, 1) := by decide +kernel
theorem dX7_air_135 : decode cX7_air 135 = .ok (.aload_n 0, 1) := by decide +kernel
theorem dX7_air_136 : decode cX7_air 136 = .ok (.getfield 7, 3) := by decide +kernel
theorem dX7_air_139 : decode cX7_air 139 = .ok (.iload 4, 2) := by decide +kernel
theorem dX7_air_141 : decode cX7_air 141 = .ok (.iconst 2, 1) := by decide +kernel
theorem dX7_air_142 : decode cX7_air 142 = .ok (.iadd, 1) := by decide +kernel
theorem dX7_air_143 : decode cX7_air 143 = .ok (.iaload, 1) := by decide +kernel
theorem dX7_air_144 : decode cX7_air 144 = .ok (.aload_n 0, 1) := by decide +kernel
theorem dX7_air_145 : decode cX7_air 145 = .ok (.getfield 7, 3) := by decide +kernel
theorem dX7_air_148 : decode cX7_air 148 = .ok (.iload 4, 2) := by decide +kernel
theorem dX7_air_150 : decode cX7_air 150 = .ok (.iaload, 1) := by decide +kernel
theorem dX7_air_151 : decode cX7_air 151 = .ok (.isub, 1) := by decide +kernel
theorem dX7_air_152 : decode cX7_air 152 = .ok (.idiv, 1) := by decide +kernel
theorem dX7_air_153 : decode cX7_air 153 = .ok (.iadd, 1) := by decide +kernel
theorem dX7_air_154 : decode cX7_air 154 = .ok (.ireturn, 1) := by decide +kernel
theorem dX7_outside_0 : decode cX7_outside 0 = .ok (.iload_n 1, 1) := by decide +kernel
theorem dX7_outside_1 : decode cX7_outside 1 = .ok (.iconst 0, 1) := by decide +kernel
theorem dX7_outside_2 : decode cX7_outside 2 = .ok (.sipush 20000, 3) := by decide +kernel
