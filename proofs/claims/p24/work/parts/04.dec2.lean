theorem dX3_beginMinute_62 : decode cX3_beginMinute 62 = .ok (.sipush 1000, 3) := by decide +kernel
theorem dX3_beginMinute_65 : decode cX3_beginMinute 65 = .ok (.idiv, 1) := by decide +kernel
theorem dX3_beginMinute_66 : decode cX3_beginMinute 66 = .ok (.istore_n 2, 1) := by decide +kernel
theorem dX3_beginMinute_67 : decode cX3_beginMinute 67 = .ok (.aload_n 0, 1) := by decide +kernel
theorem dX3_beginMinute_68 : decode cX3_beginMinute 68 = .ok (.dup, 1) := by decide +kernel
theorem dX3_beginMinute_69 : decode cX3_beginMinute 69 = .ok (.getfield 28, 3) := by decide +kernel
theorem dX3_beginMinute_72 : decode cX3_beginMinute 72 = .ok (.iload_n 2, 1) := by decide +kernel
theorem dX3_beginMinute_73 : decode cX3_beginMinute 73 = .ok (.isub, 1) := by decide +kernel
theorem dX3_beginMinute_74 : decode cX3_beginMinute 74 = .ok (.putfield 28, 3) := by decide +kernel
theorem dX3_beginMinute_77 : decode cX3_beginMinute 77 = .ok (.aload_n 0, 1) := by decide +kernel
theorem dX3_beginMinute_78 : decode cX3_beginMinute 78 = .ok (.getfield 12, 3) := by decide +kernel
theorem dX3_beginMinute_81 : decode cX3_beginMinute 81 = .ok (.dup, 1) := by decide +kernel
theorem dX3_beginMinute_82 : decode cX3_beginMinute 82 = .ok (.getfield 100, 3) := by decide +kernel
theorem dX3_beginMinute_85 : decode cX3_beginMinute 85 = .ok (.iload_n 2, 1) := by decide +kernel
theorem dX3_beginMinute_86 : decode cX3_beginMinute 86 = .ok (.iadd, 1) := by decide +kernel
theorem dX3_beginMinute_87 : decode cX3_beginMinute 87 = .ok (.putfield 100, 3) := by decide +kernel
theorem dX3_beginMinute_90 : decode cX3_beginMinute 90 = .ok (.return_, 1) := by decide +kernel
theorem dX3_giveToOthers_0 : decode cX3_giveToOthers 0 = .ok (.aload_n 0, 1) := by decide +kernel
theorem dX3_giveToOthers_1 : decode cX3_giveToOthers 1 = .ok (.dup, 1) := by decide +kernel
theorem dX3_giveToOthers_2 : decode cX3_giveToOthers 2 = .ok (.getfield 28, 3) := by decide +kernel
theorem dX3_giveToOthers_5 : decode cX3_giveToOthers 5 = .ok (.iload_n 1, 1) := by decide +kernel
theorem dX3_giveToOthers_6 : decode cX3_giveToOthers 6 = .ok (.isub, 1) := by decide +kernel
theorem dX3_giveToOthers_7 : decode cX3_giveToOthers 7 = .ok (.putfield 28, 3) := by decide +kernel
theorem dX3_giveToOthers_10 : decode cX3_giveToOthers 10 = .ok (.aload_n 0, 1) := by decide +kernel
theorem dX3_giveToOthers_11 : decode cX3_giveToOthers 11 = .ok (.getfield 12, 3) := by decide +kernel
theorem dX3_giveToOthers_14 : decode cX3_giveToOthers 14 = .ok (.dup, 1) := by decide +kernel
theorem dX3_giveToOthers_15 : decode cX3_giveToOthers 15 = .ok (.getfield 103, 3) := by decide +kernel
theorem dX3_giveToOthers_18 : decode cX3_giveToOthers 18 = .ok (.iload_n 1, 1) := by decide +kernel
theorem dX3_giveToOthers_19 : decode cX3_giveToOthers 19 = .ok (.iadd, 1) := by decide +kernel
theorem dX3_giveToOthers_20 : decode cX3_giveToOthers 20 = .ok (.putfield 103, 3) := by decide +kernel
theorem dX3_giveToOthers_23 : decode cX3_giveToOthers 23 = .ok (.return_, 1) := by decide +kernel
theorem dX3_tryToOpen_0 : decode cX3_tryToOpen 0 = .ok (.aload_n 0, 1) := by decide +kernel
theorem dX3_tryToOpen_1 : decode cX3_tryToOpen 1 = .ok (.getfield 48, 3) := by decide +kernel
theorem dX3_tryToOpen_4 : decode cX3_tryToOpen 4 = .ok (.ifCond .ne 9, 3) := by decide +kernel
theorem dX3_tryToOpen_7 : decode cX3_tryToOpen 7 = .ok (.aload_n 0, 1) := by decide +kernel
theorem dX3_tryToOpen_8 : decode cX3_tryToOpen 8 = .ok (.iconst 0, 1) := by decide +kernel
theorem dX3_tryToOpen_9 : decode cX3_tryToOpen 9 = .ok (.putfield 44, 3) := by decide +kernel
theorem dX3_tryToOpen_12 : decode cX3_tryToOpen 12 = .ok (.return_, 1) := by decide +kernel
theorem dX3_tryToOpen_13 : decode cX3_tryToOpen 13 = .ok (.aload_n 0, 1) := by decide +kernel
theorem dX3_tryToOpen_14 : decode cX3_tryToOpen 14 = .ok (.dup, 1) := by decide +kernel
theorem dX3_tryToOpen_15 : decode cX3_tryToOpen 15 = .ok (.getfield 57, 3) := by decide +kernel
theorem dX3_tryToOpen_18 : decode cX3_tryToOpen 18 = .ok (.iconst 1, 1) := by decide +kernel
theorem dX3_tryToOpen_19 : decode cX3_tryToOpen 19 = .ok (.iadd, 1) := by decide +kernel
theorem dX3_tryToOpen_20 : decode cX3_tryToOpen 20 = .ok (.putfield 57, 3) := by decide +kernel
theorem dX3_tryToOpen_23 : decode cX3_tryToOpen 23 = .ok (.aload_n 0, 1) := by decide +kernel
theorem dX3_tryToOpen_24 : decode cX3_tryToOpen 24 = .ok (.getfield 57, 3) := by decide +kernel
theorem dX3_tryToOpen_27 : decode cX3_tryToOpen 27 = .ok (.iload_n 1, 1) := by decide +kernel
theorem dX3_tryToOpen_28 : decode cX3_tryToOpen 28 = .ok (.if_icmp .lt 28, 3) := by decide +kernel
theorem dX3_tryToOpen_31 : decode cX3_tryToOpen 31 = .ok (.aload_n 0, 1) := by decide +kernel
theorem dX3_tryToOpen_32 : decode cX3_tryToOpen 32 = .ok (.iconst 0, 1) := by decide +kernel
theorem dX3_tryToOpen_33 : decode cX3_tryToOpen 33 = .ok (.putfield 44, 3) := by decide +kernel
theorem dX3_tryToOpen_36 : decode cX3_tryToOpen 36 = .ok (.aload_n 0, 1) := by decide +kernel
theorem dX3_tryToOpen_37 : decode cX3_tryToOpen 37 = .ok (.iconst 0, 1) := by decide +kernel
theorem dX3_tryToOpen_38 : decode cX3_tryToOpen 38 = .ok (.putfield 48, 3) := by decide +kernel
theorem dX3_tryToOpen_41 : decode cX3_tryToOpen 41 = .ok (.aload_n 0, 1) := by decide +kernel
theorem dX3_tryToOpen_42 : decode cX3_tryToOpen 42 = .ok (.iconst 0, 1) := by decide +kernel
theorem dX3_tryToOpen_43 : decode cX3_tryToOpen 43 = .ok (.putfield 57, 3) := by decide +kernel
theorem dX3_tryToOpen_46 : decode cX3_tryToOpen 46 = .ok (.aload_n 0, 1) := by decide +kernel
theorem dX3_tryToOpen_47 : decode cX3_tryToOpen 47 = .ok (.dup, 1) := by decide +kernel
theorem dX3_tryToOpen_48 : decode cX3_tryToOpen 48 = .ok (.getfield 54, 3) := by decide +kernel
theorem dX3_tryToOpen_51 : decode cX3_tryToOpen 51 = .ok (.iconst 2, 1) := by decide +kernel
theorem dX3_tryToOpen_52 : decode cX3_tryToOpen 52 = .ok (.idiv, 1) := by decide +kernel
theorem dX3_tryToOpen_53 : decode cX3_tryToOpen 53 = .ok (.putfield 54, 3) := by decide +kernel
theorem dX3_tryToOpen_56 : decode cX3_tryToOpen 56 = .ok (.return_, 1) := by decide +kernel
theorem dX3_renewContact_0 : decode cX3_renewContact 0 = .ok (.aload_n 0, 1) := by decide +kernel
theorem dX3_renewContact_1 : decode cX3_renewContact 1 = .ok (.iconst 0, 1) := by decide +kernel
theorem dX3_renewContact_2 : decode cX3_renewContact 2 = .ok (.putfield 54, 3) := by decide +kernel
theorem dX3_renewContact_5 : decode cX3_renewContact 5 = .ok (.aload_n 0, 1) := by decide +kernel
theorem dX3_renewContact_6 : decode cX3_renewContact 6 = .ok (.iconst 0, 1) := by decide +kernel
theorem dX3_renewContact_7 : decode cX3_renewContact 7 = .ok (.putfield 57, 3) := by decide +kernel
theorem dX3_renewContact_10 : decode cX3_renewContact 10 = .ok (.aload_n 0, 1) := by decide +kernel
theorem dX3_renewContact_11 : decode cX3_renewContact 11 = .ok (.iconst 0, 1) := by decide +kernel
theorem dX3_renewContact_12 : decode cX3_renewContact 12 = .ok (.putfield 48, 3) := by decide +kernel
theorem dX3_renewContact_15 : decode cX3_renewContact 15 = .ok (.aload_n 0, 1) := by decide +kernel
theorem dX3_renewContact_16 : decode cX3_renewContact 16 = .ok (.iconst 0, 1) := by decide +kernel
theorem dX3_renewContact_17 : decode cX3_renewContact 17 = .ok (.putfield 44, 3) := by decide +kernel
theorem dX3_renewContact_20 : decode cX3_renewContact 20 = .ok (.return_, 1) := by decide +kernel
theorem dX3_property_0 : decode cX3_property 0 = .ok (.iload_n 1, 1) := by decide +kernel
theorem dX3_property_1 : decode cX3_property 1 = .ok (.tableswitch 165 0 13 #[71, 76, 81, 86, 99, 112, 117, 122, 127, 132, 137, 150, 155, 160], 71) := by decide +kernel
theorem dX3_property_72 : decode cX3_property 72 = .ok (.aload_n 0, 1) := by decide +kernel
theorem dX3_property_73 : decode cX3_property 73 = .ok (.invokevirtual 37, 3) := by decide +kernel
theorem dX3_property_76 : decode cX3_property 76 = .ok (.ireturn, 1) := by decide +kernel
theorem dX3_property_77 : decode cX3_property 77 = .ok (.aload_n 0, 1) := by decide +kernel
theorem dX3_property_78 : decode cX3_property 78 = .ok (.getfield 28, 3) := by decide +kernel
theorem dX3_property_81 : decode cX3_property 81 = .ok (.ireturn, 1) := by decide +kernel
theorem dX3_property_82 : decode cX3_property 82 = .ok (.aload_n 0, 1) := by decide +kernel
theorem dX3_property_83 : decode cX3_property 83 = .ok (.getfield 41, 3) := by decide +kernel
theorem dX3_property_86 : decode cX3_property 86 = .ok (.ireturn, 1) := by decide +kernel
theorem dX3_property_87 : decode cX3_property 87 = .ok (.aload_n 0, 1) := by decide +kernel
theorem dX3_property_88 : decode cX3_property 88 = .ok (.getfield 44, 3) := by decide +kernel
theorem dX3_property_91 : decode cX3_property 91 = .ok (.ifCond .eq 7, 3) := by decide +kernel
theorem dX3_property_94 : decode cX3_property 94 = .ok (.iconst 1, 1) := by decide +kernel
theorem dX3_property_95 : decode cX3_property 95 = .ok (.goto 4, 3) := by decide +kernel
theorem dX3_property_98 : decode cX3_property 98 = .ok (.iconst 0, 1) := by decide +kernel
theorem dX3_property_99 : decode cX3_property 99 = .ok (.ireturn, 1) := by decide +kernel
theorem dX3_property_100 : decode cX3_property 100 = .ok (.aload_n 0, 1) := by decide +kernel
theorem dX3_property_101 : decode cX3_property 101 = .ok (.getfield 48, 3) := by decide +kernel
theorem dX3_property_104 : decode cX3_property 104 = .ok (.ifCond .eq 7, 3) := by decide +kernel
theorem dX3_property_107 : decode cX3_property 107 = .ok (.iconst 1, 1) := by decide +kernel
theorem dX3_property_108 : decode cX3_property 108 = .ok (.goto 4, 3) := by decide +kernel
theorem dX3_property_111 : decode cX3_property 111 = .ok (.iconst 0, 1) := by decide +kernel
theorem dX3_property_112 : decode cX3_property 112 = .ok (.ireturn, 1) := by decide +kernel
theorem dX3_property_113 : decode cX3_property 113 = .ok (.aload_n 0, 1) := by decide +kernel
theorem dX3_property_114 : decode cX3_property 114 = .ok (.getfield 54, 3) := by decide +kernel
theorem dX3_property_117 : decode cX3_property 117 = .ok (.ireturn, 1) := by decide +kernel
theorem dX3_property_118 : decode cX3_property 118 = .ok (.aload_n 0, 1) := by decide +kernel
theorem dX3_property_119 : decode cX3_property 119 = .ok (.getfield 57, 3) := by decide +kernel
theorem dX3_property_122 : decode cX3_property 122 = .ok (.ireturn, 1) := by decide +kernel
theorem dX3_property_123 : decode cX3_property 123 = .ok (.aload_n 0, 1) := by decide +kernel
theorem dX3_property_124 : decode cX3_property 124 = .ok (.getfield 60, 3) := by decide +kernel
theorem dX3_property_127 : decode cX3_property 127 = .ok (.ireturn, 1) := by decide +kernel
theorem dX3_property_128 : decode cX3_property 128 = .ok (.aload_n 0, 1) := by decide +kernel
theorem dX3_property_129 : decode cX3_property 129 = .ok (.getfield 67, 3) := by decide +kernel
theorem dX3_property_132 : decode cX3_property 132 = .ok (.ireturn, 1) := by decide +kernel
theorem dX3_property_133 : decode cX3_property 133 = .ok (.aload_n 0, 1) := by decide +kernel
theorem dX3_property_134 : decode cX3_property 134 = .ok (.getfield 70, 3) := by decide +kernel
theorem dX3_property_137 : decode cX3_property 137 = .ok (.ireturn, 1) := by decide +kernel
theorem dX3_property_138 : decode cX3_property 138 = .ok (.aload_n 0, 1) := by decide +kernel
theorem dX3_property_139 : decode cX3_property 139 = .ok (.getfield 51, 3) := by decide +kernel
theorem dX3_property_142 : decode cX3_property 142 = .ok (.ifCond .eq 7, 3) := by decide +kernel
theorem dX3_property_145 : decode cX3_property 145 = .ok (.iconst 1, 1) := by decide +kernel
theorem dX3_property_146 : decode cX3_property 146 = .ok (.goto 4, 3) := by decide +kernel
theorem dX3_property_149 : decode cX3_property 149 = .ok (.iconst 0, 1) := by decide +kernel
theorem dX3_property_150 : decode cX3_property 150 = .ok (.ireturn, 1) := by decide +kernel
theorem dX3_property_151 : decode cX3_property 151 = .ok (.aload_n 0, 1) := by decide +kernel
theorem dX3_property_152 : decode cX3_property 152 = .ok (.getfield 64, 3) := by decide +kernel
theorem dX3_property_155 : decode cX3_property 155 = .ok (.ireturn, 1) := by decide +kernel
theorem dX3_property_156 : decode cX3_property 156 = .ok (.aload_n 0, 1) := by decide +kernel
theorem dX3_property_157 : decode cX3_property 157 = .ok (.getfield 31, 3) := by decide +kernel
theorem dX3_property_160 : decode cX3_property 160 = .ok (.ireturn, 1) := by decide +kernel
theorem dX3_property_161 : decode cX3_property 161 = .ok (.aload_n 0, 1) := by decide +kernel
theorem dX3_property_162 : decode cX3_property 162 = .ok (.getfield 34, 3) := by decide +kernel
theorem dX3_property_165 : decode cX3_property 165 = .ok (.ireturn, 1) := by decide +kernel
theorem dX3_property_166 : decode cX3_property 166 = .ok (.ldc 106, 2) := by decide +kernel
theorem dX3_property_168 : decode cX3_property 168 = .ok (.ireturn, 1) := by decide +kernel
theorem dX4_init_0 : decode cX4_init 0 = .ok (.aload_n 0, 1) := by decide +kernel
theorem dX4_init_1 : decode cX4_init 1 = .ok (.invokespecial 3, 3) := by decide +kernel
theorem dX4_init_4 : decode cX4_init 4 = .ok (.aload_n 0, 1) := by decide +kernel
theorem dX4_init_5 : decode cX4_init 5 = .ok (.bipush 12, 2) := by decide +kernel
theorem dX4_init_7 : decode cX4_init 7 = .ok (.newarray .int, 2) := by decide +kernel
theorem dX4_init_9 : decode cX4_init 9 = .ok (.putfield 9, 3) := by decide +kernel
theorem dX4_init_12 : decode cX4_init 12 = .ok (.aload_n 0, 1) := by decide +kernel
theorem dX4_init_13 : decode cX4_init 13 = .ok (.bipush 12, 2) := by decide +kernel
theorem dX4_init_15 : decode cX4_init 15 = .ok (.newarray .int, 2) := by decide +kernel
theorem dX4_init_17 : decode cX4_init 17 = .ok (.putfield 15, 3) := by decide +kernel
theorem dX4_init_20 : decode cX4_init 20 = .ok (.return_, 1) := by decide +kernel
theorem dX4_copyFrom_0 : decode cX4_copyFrom 0 = .ok (.aload_n 1, 1) := by decide +kernel
theorem dX4_copyFrom_1 : decode cX4_copyFrom 1 = .ok (.getfield 9, 3) := by decide +kernel
theorem dX4_copyFrom_4 : decode cX4_copyFrom 4 = .ok (.iconst 0, 1) := by decide +kernel
theorem dX4_copyFrom_5 : decode cX4_copyFrom 5 = .ok (.aload_n 0, 1) := by decide +kernel
theorem dX4_copyFrom_6 : decode cX4_copyFrom 6 = .ok (.getfield 9, 3) := by decide +kernel
theorem dX4_copyFrom_9 : decode cX4_copyFrom 9 = .ok (.iconst 0, 1) := by decide +kernel
theorem dX4_copyFrom_10 : decode cX4_copyFrom 10 = .ok (.bipush 12, 2) := by decide +kernel
theorem dX4_copyFrom_12 : decode cX4_copyFrom 12 = .ok (.invokestatic 18, 3) := by decide +kernel
theorem dX4_copyFrom_15 : decode cX4_copyFrom 15 = .ok (.aload_n 1, 1) := by decide +kernel
theorem dX4_copyFrom_16 : decode cX4_copyFrom 16 = .ok (.getfield 15, 3) := by decide +kernel
theorem dX4_copyFrom_19 : decode cX4_copyFrom 19 = .ok (.iconst 0, 1) := by decide +kernel
theorem dX4_copyFrom_20 : decode cX4_copyFrom 20 = .ok (.aload_n 0, 1) := by decide +kernel
theorem dX4_copyFrom_21 : decode cX4_copyFrom 21 = .ok (.getfield 15, 3) := by decide +kernel
theorem dX4_copyFrom_24 : decode cX4_copyFrom 24 = .ok (.iconst 0, 1) := by decide +kernel
theorem dX4_copyFrom_25 : decode cX4_copyFrom 25 = .ok (.bipush 12, 2) := by decide +kernel
theorem dX4_copyFrom_27 : decode cX4_copyFrom 27 = .ok (.invokestatic 18, 3) := by decide +kernel
theorem dX4_copyFrom_30 : decode cX4_copyFrom 30 = .ok (.aload_n 0, 1) := by decide +kernel
theorem dX4_copyFrom_31 : decode cX4_copyFrom 31 = .ok (.aload_n 1, 1) := by decide +kernel
theorem dX4_copyFrom_32 : decode cX4_copyFrom 32 = .ok (.getfield 24, 3) := by decide +kernel
theorem dX4_copyFrom_35 : decode cX4_copyFrom 35 = .ok (.putfield 24, 3) := by decide +kernel
theorem dX4_copyFrom_38 : decode cX4_copyFrom 38 = .ok (.return_, 1) := by decide +kernel
theorem dX4_temperatureAt_0 : decode cX4_temperatureAt 0 = .ok (.iconst 0, 1) := by decide +kernel
theorem dX4_temperatureAt_1 : decode cX4_temperatureAt 1 = .ok (.istore_n 2, 1) := by decide +kernel
theorem dX4_temperatureAt_2 : decode cX4_temperatureAt 2 = .ok (.iconst 0, 1) := by decide +kernel
theorem dX4_temperatureAt_3 : decode cX4_temperatureAt 3 = .ok (.istore_n 3, 1) := by decide +kernel
theorem dX4_temperatureAt_4 : decode cX4_temperatureAt 4 = .ok (.iload_n 3, 1) := by decide +kernel
theorem dX4_temperatureAt_5 : decode cX4_temperatureAt 5 = .ok (.aload_n 0, 1) := by decide +kernel
theorem dX4_temperatureAt_6 : decode cX4_temperatureAt 6 = .ok (.getfield 24, 3) := by decide +kernel
theorem dX4_temperatureAt_9 : decode cX4_temperatureAt 9 = .ok (.if_icmp .ge 60, 3) := by decide +kernel
theorem dX4_temperatureAt_12 : decode cX4_temperatureAt 12 = .ok (.iload_n 3, 1) := by decide +kernel
theorem dX4_temperatureAt_13 : decode cX4_temperatureAt 13 = .ok (.bipush 12, 2) := by decide +kernel
theorem dX4_temperatureAt_15 : decode cX4_temperatureAt 15 = .ok (.if_icmp .ge 54, 3) := by decide +kernel
theorem dX4_temperatureAt_18 : decode cX4_temperatureAt 18 = .ok (.iload_n 1, 1) := by decide +kernel
theorem dX4_temperatureAt_19 : decode cX4_temperatureAt 19 = .ok (.aload_n 0, 1) := by decide +kernel
theorem dX4_temperatureAt_20 : decode cX4_temperatureAt 20 = .ok (.getfield 9, 3) := by decide +kernel
theorem dX4_temperatureAt_23 : decode cX4_temperatureAt 23 = .ok (.iload_n 3, 1) := by decide +kernel
theorem dX4_temperatureAt_24 : decode cX4_temperatureAt 24 = .ok (.iaload, 1) := by decide +kernel
theorem dX4_temperatureAt_25 : decode cX4_temperatureAt 25 = .ok (.if_icmp .ge 27, 3) := by decide +kernel
theorem dX4_temperatureAt_28 : decode cX4_temperatureAt 28 = .ok (.iload_n 3, 1) := by decide +kernel
theorem dX4_temperatureAt_29 : decode cX4_temperatureAt 29 = .ok (.ifCond .ne 16, 3) := by decide +kernel
theorem dX4_temperatureAt_32 : decode cX4_temperatureAt 32 = .ok (.sipush 1000, 3) := by decide +kernel
theorem dX4_temperatureAt_35 : decode cX4_temperatureAt 35 = .ok (.aload_n 0, 1) := by decide +kernel
theorem dX4_temperatureAt_36 : decode cX4_temperatureAt 36 = .ok (.getfield 15, 3) := by decide +kernel
theorem dX4_temperatureAt_39 : decode cX4_temperatureAt 39 = .ok (.iconst 0, 1) := by decide +kernel
theorem dX4_temperatureAt_40 : decode cX4_temperatureAt 40 = .ok (.iaload, 1) := by decide +kernel
theorem dX4_temperatureAt_41 : decode cX4_temperatureAt 41 = .ok (.imul, 1) := by decide +kernel
theorem dX4_temperatureAt_42 : decode cX4_temperatureAt 42 = .ok (.goto 9, 3) := by decide +kernel
theorem dX4_temperatureAt_45 : decode cX4_temperatureAt 45 = .ok (.aload_n 0, 1) := by decide +kernel
theorem dX4_temperatureAt_46 : decode cX4_temperatureAt 46 = .ok (.iload_n 3, 1) := by decide +kernel
theorem dX4_temperatureAt_47 : decode cX4_temperatureAt 47 = .ok (.iload_n 1, 1) := by decide +kernel
theorem dX4_temperatureAt_48 : decode cX4_temperatureAt 48 = .ok (.invokevirtual 28, 3) := by decide +kernel
theorem dX4_temperatureAt_51 : decode cX4_temperatureAt 51 = .ok (.ireturn, 1) := by decide +kernel
theorem dX4_temperatureAt_52 : decode cX4_temperatureAt 52 = .ok (.sipush 1000, 3) := by decide +kernel
theorem dX4_temperatureAt_55 : decode cX4_temperatureAt 55 = .ok (.aload_n 0, 1) := by decide +kernel
theorem dX4_temperatureAt_56 : decode cX4_temperatureAt 56 = .ok (.getfield 15, 3) := by decide +kernel
theorem dX4_temperatureAt_59 : decode cX4_temperatureAt 59 = .ok (.iload_n 3, 1) := by decide +kernel
theorem dX4_temperatureAt_60 : decode cX4_temperatureAt 60 = .ok (.iaload, 1) := by decide +kernel
theorem dX4_temperatureAt_61 : decode cX4_temperatureAt 61 = .ok (.imul, 1) := by decide +kernel
theorem dX4_temperatureAt_62 : decode cX4_temperatureAt 62 = .ok (.istore_n 2, 1) := by decide +kernel
theorem dX4_temperatureAt_63 : decode cX4_temperatureAt 63 = .ok (.iinc 3 1, 3) := by decide +kernel
theorem dX4_temperatureAt_66 : decode cX4_temperatureAt 66 = .ok (.goto (-62), 3) := by decide +kernel
theorem dX4_temperatureAt_69 : decode cX4_temperatureAt 69 = .ok (.iload_n 2, 1) := by decide +kernel
theorem dX4_temperatureAt_70 : decode cX4_temperatureAt 70 = .ok (.ireturn, 1) := by decide +kernel
theorem dX4_temperatureBefore_0 : decode cX4_temperatureBefore 0 = .ok (.iload_n 1, 1) := by decide +kernel
theorem dX4_temperatureBefore_1 : decode cX4_temperatureBefore 1 = .ok (.iconst 1, 1) := by decide +kernel
theorem dX4_temperatureBefore_2 : decode cX4_temperatureBefore 2 = .ok (.if_icmp .lt 9, 3) := by decide +kernel
theorem dX4_temperatureBefore_5 : decode cX4_temperatureBefore 5 = .ok (.iload_n 1, 1) := by decide +kernel
theorem dX4_temperatureBefore_6 : decode cX4_temperatureBefore 6 = .ok (.bipush 12, 2) := by decide +kernel
theorem dX4_temperatureBefore_8 : decode cX4_temperatureBefore 8 = .ok (.if_icmp .lt 5, 3) := by decide +kernel
theorem dX4_temperatureBefore_11 : decode cX4_temperatureBefore 11 = .ok (.iconst 0, 1) := by decide +kernel
theorem dX4_temperatureBefore_12 : decode cX4_temperatureBefore 12 = .ok (.ireturn, 1) := by decide +kernel
theorem dX4_temperatureBefore_13 : decode cX4_temperatureBefore 13 = .ok (.aload_n 0, 1) := by decide +kernel
theorem dX4_temperatureBefore_14 : decode cX4_temperatureBefore 14 = .ok (.getfield 15, 3) := by decide +kernel
theorem dX4_temperatureBefore_17 : decode cX4_temperatureBefore 17 = .ok (.iload_n 1, 1) := by decide +kernel
theorem dX4_temperatureBefore_18 : decode cX4_temperatureBefore 18 = .ok (.iconst 1, 1) := by decide +kernel
theorem dX4_temperatureBefore_19 : decode cX4_temperatureBefore 19 = .ok (.isub, 1) := by decide +kernel
theorem dX4_temperatureBefore_20 : decode cX4_temperatureBefore 20 = .ok (.iaload, 1) := by decide +kernel
theorem dX4_temperatureBefore_21 : decode cX4_temperatureBefore 21 = .ok (.istore_n 3, 1) := by decide +kernel
theorem dX4_temperatureBefore_22 : decode cX4_temperatureBefore 22 = .ok (.aload_n 0, 1) := by decide +kernel
theorem dX4_temperatureBefore_23 : decode cX4_temperatureBefore 23 = .ok (.getfield 9, 3) := by decide +kernel
theorem dX4_temperatureBefore_26 : decode cX4_temperatureBefore 26 = .ok (.iload_n 1, 1) := by decide +kernel
theorem dX4_temperatureBefore_27 : decode cX4_temperatureBefore 27 = .ok (.iaload, 1) := by decide +kernel
theorem dX4_temperatureBefore_28 : decode cX4_temperatureBefore 28 = .ok (.aload_n 0, 1) := by decide +kernel
theorem dX4_temperatureBefore_29 : decode cX4_temperatureBefore 29 = .ok (.getfield 9, 3) := by decide +kernel
theorem dX4_temperatureBefore_32 : decode cX4_temperatureBefore 32 = .ok (.iload_n 1, 1) := by decide +kernel
theorem dX4_temperatureBefore_33 : decode cX4_temperatureBefore 33 = .ok (.iconst 1, 1) := by decide +kernel
theorem dX4_temperatureBefore_34 : decode cX4_temperatureBefore 34 = .ok (.isub, 1) := by decide +kernel
theorem dX4_temperatureBefore_35 : decode cX4_temperatureBefore 35 = .ok (.iaload, 1) := by decide +kernel
theorem dX4_temperatureBefore_36 : decode cX4_temperatureBefore 36 = .ok (.isub, 1) := by decide +kernel
theorem dX4_temperatureBefore_37 : decode cX4_temperatureBefore 37 = .ok (.istore 4, 2) := by decide +kernel
theorem dX4_temperatureBefore_39 : decode cX4_temperatureBefore 39 = .ok (.iload_n 2, 1) := by decide +kernel
theorem dX4_temperatureBefore_40 : decode cX4_temperatureBefore 40 = .ok (.aload_n 0, 1) := by decide +kernel
theorem dX4_temperatureBefore_41 : decode cX4_temperatureBefore 41 = .ok (.getfield 9, 3) := by decide +kernel
theorem dX4_temperatureBefore_44 : decode cX4_temperatureBefore 44 = .ok (.iload_n 1, 1) := by decide +kernel
theorem dX4_temperatureBefore_45 : decode cX4_temperatureBefore 45 = .ok (.iconst 1, 1) := by decide +kernel
theorem dX4_temperatureBefore_46 : decode cX4_temperatureBefore 46 = .ok (.isub, 1) := by decide +kernel
theorem dX4_temperatureBefore_47 : decode cX4_temperatureBefore 47 = .ok (.iaload, 1) := by decide +kernel
theorem dX4_temperatureBefore_48 : decode cX4_temperatureBefore 48 = .ok (.isub, 1) := by decide +kernel
theorem dX4_temperatureBefore_49 : decode cX4_temperatureBefore 49 = .ok (.istore 5, 2) := by decide +kernel
theorem dX4_temperatureBefore_51 : decode cX4_temperatureBefore 51 = .ok (.iload 4, 2) := by decide +kernel
theorem dX4_temperatureBefore_53 : decode cX4_temperatureBefore 53 = .ok (.ifCond .ne 11, 3) := by decide +kernel
theorem dX4_temperatureBefore_56 : decode cX4_temperatureBefore 56 = .ok (.sipush 1000, 3) := by decide +kernel
theorem dX4_temperatureBefore_59 : decode cX4_temperatureBefore 59 = .ok (.iload_n 3, 1) := by decide +kernel
theorem dX4_temperatureBefore_60 : decode cX4_temperatureBefore 60 = .ok (.imul, 1) := by decide +kernel
theorem dX4_temperatureBefore_61 : decode cX4_temperatureBefore 61 = .ok (.goto 27, 3) := by decide +kernel
theorem dX4_temperatureBefore_64 : decode cX4_temperatureBefore 64 = .ok (.sipush 1000, 3) := by decide +kernel
theorem dX4_temperatureBefore_67 : decode cX4_temperatureBefore 67 = .ok (.iload_n 3, 1) := by decide +kernel
theorem dX4_temperatureBefore_68 : decode cX4_temperatureBefore 68 = .ok (.imul, 1) := by decide +kernel
theorem dX4_temperatureBefore_69 : decode cX4_temperatureBefore 69 = .ok (.sipush 1000, 3) := by decide +kernel
theorem dX4_temperatureBefore_72 : decode cX4_temperatureBefore 72 = .ok (.aload_n 0, 1) := by decide +kernel
theorem dX4_temperatureBefore_73 : decode cX4_temperatureBefore 73 = .ok (.getfield 15, 3) := by decide +kernel
theorem dX4_temperatureBefore_76 : decode cX4_temperatureBefore 76 = .ok (.iload_n 1, 1) := by decide +kernel
theorem dX4_temperatureBefore_77 : decode cX4_temperatureBefore 77 = .ok (.iaload, 1) := by decide +kernel
theorem dX4_temperatureBefore_78 : decode cX4_temperatureBefore 78 = .ok (.iload_n 3, 1) := by decide +kernel
theorem dX4_temperatureBefore_79 : decode cX4_temperatureBefore 79 = .ok (.isub, 1) := by decide +kernel
theorem dX4_temperatureBefore_80 : decode cX4_temperatureBefore 80 = .ok (.imul, 1) := by decide +kernel
theorem dX4_temperatureBefore_81 : decode cX4_temperatureBefore 81 = .ok (.iload 5, 2) := by decide +kernel
theorem dX4_temperatureBefore_83 : decode cX4_temperatureBefore 83 = .ok (.imul, 1) := by decide +kernel
theorem dX4_temperatureBefore_84 : decode cX4_temperatureBefore 84 = .ok (.iload 4, 2) := by decide +kernel
theorem dX4_temperatureBefore_86 : decode cX4_temperatureBefore 86 = .ok (.idiv, 1) := by decide +kernel
theorem dX4_temperatureBefore_87 : decode cX4_temperatureBefore 87 = .ok (.iadd, 1) := by decide +kernel
theorem dX4_temperatureBefore_88 : decode cX4_temperatureBefore 88 = .ok (.ireturn, 1) := by decide +kernel
theorem dX5_init_0 : decode cX5_init 0 = .ok (.aload_n 0, 1) := by decide +kernel
theorem dX5_init_1 : decode cX5_init 1 = .ok (.invokespecial 3, 3) := by decide +kernel
theorem dX5_init_4 : decode cX5_init 4 = .ok (.aload_n 0, 1) := by decide +kernel
theorem dX5_init_5 : decode cX5_init 5 = .ok (.bipush 100, 2) := by decide +kernel
theorem dX5_init_7 : decode cX5_init 7 = .ok (.newarray .int, 2) := by decide +kernel
theorem dX5_init_9 : decode cX5_init 9 = .ok (.putfield 9, 3) := by decide +kernel
theorem dX5_init_12 : decode cX5_init 12 = .ok (.return_, 1) := by decide +kernel
theorem dX6_init_0 : decode cX6_init 0 = .ok (.aload_n 0, 1) := by decide +kernel
theorem dX6_init_1 : decode cX6_init 1 = .ok (.invokespecial 1, 3) := by decide +kernel
theorem dX6_init_4 : decode cX6_init 4 = .ok (.aload_n 0, 1) := by decide +kernel
theorem dX6_init_5 : decode cX6_init 5 = .ok (.new 7, 3) := by decide +kernel
theorem dX6_init_8 : decode cX6_init 8 = .ok (.dup, 1) := by decide +kernel
theorem dX6_init_9 : decode cX6_init 9 = .ok (.invokespecial 9, 3) := by decide +kernel
theorem dX6_init_12 : decode cX6_init 12 = .ok (.putfield 10, 3) := by decide +kernel
theorem dX6_init_15 : decode cX6_init 15 = .ok (.aload_n 0, 1) := by decide +kernel
theorem dX6_init_16 : decode cX6_init 16 = .ok (.new 7, 3) := by decide +kernel
theorem dX6_init_19 : decode cX6_init 19 = .ok (.dup, 1) := by decide +kernel
theorem dX6_init_20 : decode cX6_init 20 = .ok (.invokespecial 9, 3) := by decide +kernel
theorem dX6_init_23 : decode cX6_init 23 = .ok (.putfield 16, 3) := by decide +kernel
theorem dX6_init_26 : decode cX6_init 26 = .ok (.aload_n 0, 1) := by decide +kernel
theorem dX6_init_27 : decode cX6_init 27 = .ok (.new 19, 3) := by decide +kernel
theorem dX6_init_30 : decode cX6_init 30 = .ok (.dup, 1) := by decide +kernel
theorem dX6_init_31 : decode cX6_init 31 = .ok (.invokespecial 21, 3) := by decide +kernel
theorem dX6_init_34 : decode cX6_init 34 = .ok (.putfield 22, 3) := by decide +kernel
theorem dX6_init_37 : decode cX6_init 37 = .ok (.aload_n 0, 1) := by decide +kernel
theorem dX6_init_38 : decode cX6_init 38 = .ok (.new 26, 3) := by decide +kernel
theorem dX6_init_41 : decode cX6_init 41 = .ok (.dup, 1) := by decide +kernel
theorem dX6_init_42 : decode cX6_init 42 = .ok (.invokespecial 28, 3) := by decide +kernel
theorem dX6_init_45 : decode cX6_init 45 = .ok (.putfield 29, 3) := by decide +kernel
theorem dX6_init_48 : decode cX6_init 48 = .ok (.aload_n 0, 1) := by decide +kernel
theorem dX6_init_49 : decode cX6_init 49 = .ok (.new 33, 3) := by decide +kernel
theorem dX6_init_52 : decode cX6_init 52 = .ok (.dup, 1) := by decide +kernel
theorem dX6_init_53 : decode cX6_init 53 = .ok (.invokespecial 35, 3) := by decide +kernel
theorem dX6_init_56 : decode cX6_init 56 = .ok (.putfield 36, 3) := by decide +kernel
theorem dX6_init_59 : decode cX6_init 59 = .ok (.return_, 1) := by decide +kernel
theorem dX6_addRoom_0 : decode cX6_addRoom 0 = .ok (.iload_n 1, 1) := by decide +kernel
theorem dX6_addRoom_1 : decode cX6_addRoom 1 = .ok (.bipush 10, 2) := by decide +kernel
theorem dX6_addRoom_3 : decode cX6_addRoom 3 = .ok (.sipush 500, 3) := by decide +kernel
theorem dX6_addRoom_6 : decode cX6_addRoom 6 = .ok (.invokestatic 40, 3) := by decide +kernel
theorem dX6_addRoom_9 : decode cX6_addRoom 9 = .ok (.ifCond .eq 43, 3) := by decide +kernel
theorem dX6_addRoom_12 : decode cX6_addRoom 12 = .ok (.iload_n 2, 1) := by decide +kernel
theorem dX6_addRoom_13 : decode cX6_addRoom 13 = .ok (.iconst 1, 1) := by decide +kernel
theorem dX6_addRoom_14 : decode cX6_addRoom 14 = .ok (.sipush 200, 3) := by decide +kernel
theorem dX6_addRoom_17 : decode cX6_addRoom 17 = .ok (.invokestatic 40, 3) := by decide +kernel
theorem dX6_addRoom_20 : decode cX6_addRoom 20 = .ok (.ifCond .eq 32, 3) := by decide +kernel
theorem dX6_addRoom_23 : decode cX6_addRoom 23 = .ok (.iload_n 3, 1) := by decide +kernel
theorem dX6_addRoom_24 : decode cX6_addRoom 24 = .ok (.iconst 0, 1) := by decide +kernel
theorem dX6_addRoom_25 : decode cX6_addRoom 25 = .ok (.bipush 50, 2) := by decide +kernel
theorem dX6_addRoom_27 : decode cX6_addRoom 27 = .ok (.invokestatic 40, 3) := by decide +kernel
theorem dX6_addRoom_30 : decode cX6_addRoom 30 = .ok (.ifCond .eq 22, 3) := by decide +kernel
theorem dX6_addRoom_33 : decode cX6_addRoom 33 = .ok (.iload_n 3, 1) := by decide +kernel
theorem dX6_addRoom_34 : decode cX6_addRoom 34 = .ok (.iload_n 1, 1) := by decide +kernel
theorem dX6_addRoom_35 : decode cX6_addRoom 35 = .ok (.iconst 2, 1) := by decide +kernel
theorem dX6_addRoom_36 : decode cX6_addRoom 36 = .ok (.idiv, 1) := by decide +kernel
theorem dX6_addRoom_37 : decode cX6_addRoom 37 = .ok (.if_icmp .gt 15, 3) := by decide +kernel
theorem dX6_addRoom_40 : decode cX6_addRoom 40 = .ok (.iload 4, 2) := by decide +kernel
theorem dX6_addRoom_42 : decode cX6_addRoom 42 = .ok (.bipush (-40), 2) := by decide +kernel
theorem dX6_addRoom_44 : decode cX6_addRoom 44 = .ok (.bipush 40, 2) := by decide +kernel
theorem dX6_addRoom_46 : decode cX6_addRoom 46 = .ok (.invokestatic 40, 3) := by decide +kernel
theorem dX6_addRoom_49 : decode cX6_addRoom 49 = .ok (.ifCond .ne 6, 3) := by decide +kernel
theorem dX6_addRoom_52 : decode cX6_addRoom 52 = .ok (.ldc 44, 2) := by decide +kernel
theorem dX6_addRoom_54 : decode cX6_addRoom 54 = .ok (.ireturn, 1) := by decide +kernel
theorem dX6_addRoom_55 : decode cX6_addRoom 55 = .ok (.aload_n 0, 1) := by decide +kernel
theorem dX6_addRoom_56 : decode cX6_addRoom 56 = .ok (.getfield 10, 3) := by decide +kernel
theorem dX6_addRoom_59 : decode cX6_addRoom 59 = .ok (.getfield 45, 3) := by decide +kernel
theorem dX6_addRoom_62 : decode cX6_addRoom 62 = .ok (.bipush 6, 2) := by decide +kernel
theorem dX6_addRoom_64 : decode cX6_addRoom 64 = .ok (.if_icmp .lt 6, 3) := by decide +kernel
theorem dX6_addRoom_67 : decode cX6_addRoom 67 = .ok (.ldc 49, 2) := by decide +kernel
theorem dX6_addRoom_69 : decode cX6_addRoom 69 = .ok (.ireturn, 1) := by decide +kernel
theorem dX6_addRoom_70 : decode cX6_addRoom 70 = .ok (.aload_n 0, 1) := by decide +kernel
theorem dX6_addRoom_71 : decode cX6_addRoom 71 = .ok (.getfield 22, 3) := by decide +kernel
theorem dX6_addRoom_74 : decode cX6_addRoom 74 = .ok (.aload_n 0, 1) := by decide +kernel
theorem dX6_addRoom_75 : decode cX6_addRoom 75 = .ok (.getfield 10, 3) := by decide +kernel
theorem dX6_addRoom_78 : decode cX6_addRoom 78 = .ok (.invokevirtual 50, 3) := by decide +kernel
theorem dX6_addRoom_81 : decode cX6_addRoom 81 = .ok (.aload_n 0, 1) := by decide +kernel
theorem dX6_addRoom_82 : decode cX6_addRoom 82 = .ok (.getfield 10, 3) := by decide +kernel
theorem dX6_addRoom_85 : decode cX6_addRoom 85 = .ok (.iload_n 1, 1) := by decide +kernel
theorem dX6_addRoom_86 : decode cX6_addRoom 86 = .ok (.iload_n 2, 1) := by decide +kernel
theorem dX6_addRoom_87 : decode cX6_addRoom 87 = .ok (.iload_n 3, 1) := by decide +kernel
theorem dX6_addRoom_88 : decode cX6_addRoom 88 = .ok (.iload 4, 2) := by decide +kernel
theorem dX6_addRoom_90 : decode cX6_addRoom 90 = .ok (.invokevirtual 54, 3) := by decide +kernel
theorem dX6_addRoom_93 : decode cX6_addRoom 93 = .ok (.ireturn, 1) := by decide +kernel
theorem dX6_setLink_0 : decode cX6_setLink 0 = .ok (.aload_n 0, 1) := by decide +kernel
theorem dX6_setLink_1 : decode cX6_setLink 1 = .ok (.getfield 10, 3) := by decide +kernel
theorem dX6_setLink_4 : decode cX6_setLink 4 = .ok (.iload_n 1, 1) := by decide +kernel
theorem dX6_setLink_5 : decode cX6_setLink 5 = .ok (.iload_n 2, 1) := by decide +kernel
theorem dX6_setLink_6 : decode cX6_setLink 6 = .ok (.invokevirtual 58, 3) := by decide +kernel
theorem dX6_setLink_9 : decode cX6_setLink 9 = .ok (.ifCond .eq 13, 3) := by decide +kernel
theorem dX6_setLink_12 : decode cX6_setLink 12 = .ok (.iload_n 3, 1) := by decide +kernel
theorem dX6_setLink_13 : decode cX6_setLink 13 = .ok (.iconst 0, 1) := by decide +kernel
theorem dX6_setLink_14 : decode cX6_setLink 14 = .ok (.bipush 50, 2) := by decide +kernel
theorem dX6_setLink_16 : decode cX6_setLink 16 = .ok (.invokestatic 40, 3) := by decide +kernel
theorem dX6_setLink_19 : decode cX6_setLink 19 = .ok (.ifCond .ne 6, 3) := by decide +kernel
theorem dX6_setLink_22 : decode cX6_setLink 22 = .ok (.ldc 44, 2) := by decide +kernel
theorem dX6_setLink_24 : decode cX6_setLink 24 = .ok (.ireturn, 1) := by decide +kernel
theorem dX6_setLink_25 : decode cX6_setLink 25 = .ok (.aload_n 0, 1) := by decide +kernel
theorem dX6_setLink_26 : decode cX6_setLink 26 = .ok (.getfield 10, 3) := by decide +kernel
theorem dX6_setLink_29 : decode cX6_setLink 29 = .ok (.iload_n 1, 1) := by decide +kernel
theorem dX6_setLink_30 : decode cX6_setLink 30 = .ok (.iload_n 2, 1) := by decide +kernel
theorem dX6_setLink_31 : decode cX6_setLink 31 = .ok (.invokevirtual 62, 3) := by decide +kernel
theorem dX6_setLink_34 : decode cX6_setLink 34 = .ok (.istore 4, 2) := by decide +kernel
theorem dX6_setLink_36 : decode cX6_setLink 36 = .ok (.iload_n 3, 1) := by decide +kernel
theorem dX6_setLink_37 : decode cX6_setLink 37 = .ok (.iload 4, 2) := by decide +kernel
theorem dX6_setLink_39 : decode cX6_setLink 39 = .ok (.isub, 1) := by decide +kernel
theorem dX6_setLink_40 : decode cX6_setLink 40 = .ok (.istore 5, 2) := by decide +kernel
theorem dX6_setLink_42 : decode cX6_setLink 42 = .ok (.aload_n 0, 1) := by decide +kernel
theorem dX6_setLink_43 : decode cX6_setLink 43 = .ok (.getfield 10, 3) := by decide +kernel
theorem dX6_setLink_46 : decode cX6_setLink 46 = .ok (.iload_n 1, 1) := by decide +kernel
theorem dX6_setLink_47 : decode cX6_setLink 47 = .ok (.iload 5, 2) := by decide +kernel
theorem dX6_setLink_49 : decode cX6_setLink 49 = .ok (.invokevirtual 66, 3) := by decide +kernel
theorem dX6_setLink_52 : decode cX6_setLink 52 = .ok (.ifCond .eq 16, 3) := by decide +kernel
theorem dX6_setLink_55 : decode cX6_setLink 55 = .ok (.aload_n 0, 1) := by decide +kernel
theorem dX6_setLink_56 : decode cX6_setLink 56 = .ok (.getfield 10, 3) := by decide +kernel
theorem dX6_setLink_59 : decode cX6_setLink 59 = .ok (.iload_n 2, 1) := by decide +kernel
theorem dX6_setLink_60 : decode cX6_setLink 60 = .ok (.iload 5, 2) := by decide +kernel
theorem dX6_setLink_62 : decode cX6_setLink 62 = .ok (.invokevirtual 66, 3) := by decide +kernel
theorem dX6_setLink_65 : decode cX6_setLink 65 = .ok (.ifCond .ne 6, 3) := by decide +kernel
theorem dX6_setLink_68 : decode cX6_setLink 68 = .ok (.ldc 69, 2) := by decide +kernel
theorem dX6_setLink_70 : decode cX6_setLink 70 = .ok (.ireturn, 1) := by decide +kernel
theorem dX6_setLink_71 : decode cX6_setLink 71 = .ok (.aload_n 0, 1) := by decide +kernel
theorem dX6_setLink_72 : decode cX6_setLink 72 = .ok (.getfield 22, 3) := by decide +kernel
theorem dX6_setLink_75 : decode cX6_setLink 75 = .ok (.aload_n 0, 1) := by decide +kernel
theorem dX6_setLink_76 : decode cX6_setLink 76 = .ok (.getfield 10, 3) := by decide +kernel
theorem dX6_setLink_79 : decode cX6_setLink 79 = .ok (.invokevirtual 50, 3) := by decide +kernel
theorem dX6_setLink_82 : decode cX6_setLink 82 = .ok (.aload_n 0, 1) := by decide +kernel
theorem dX6_setLink_83 : decode cX6_setLink 83 = .ok (.getfield 10, 3) := by decide +kernel
theorem dX6_setLink_86 : decode cX6_setLink 86 = .ok (.iload_n 1, 1) := by decide +kernel
theorem dX6_setLink_87 : decode cX6_setLink 87 = .ok (.iload_n 2, 1) := by decide +kernel
theorem dX6_setLink_88 : decode cX6_setLink 88 = .ok (.iload_n 3, 1) := by decide +kernel
theorem dX6_setLink_89 : decode cX6_setLink 89 = .ok (.invokevirtual 70, 3) := by decide +kernel
theorem dX6_setLink_92 : decode cX6_setLink 92 = .ok (.iload 4, 2) := by decide +kernel
theorem dX6_setLink_94 : decode cX6_setLink 94 = .ok (.ireturn, 1) := by decide +kernel
theorem dX6_setThermostat_0 : decode cX6_setThermostat 0 = .ok (.aload_n 0, 1) := by decide +kernel
theorem dX6_setThermostat_1 : decode cX6_setThermostat 1 = .ok (.getfield 10, 3) := by decide +kernel
theorem dX6_setThermostat_4 : decode cX6_setThermostat 4 = .ok (.iload_n 1, 1) := by decide +kernel
theorem dX6_setThermostat_5 : decode cX6_setThermostat 5 = .ok (.invokevirtual 74, 3) := by decide +kernel
theorem dX6_setThermostat_8 : decode cX6_setThermostat 8 = .ok (.astore 4, 2) := by decide +kernel
theorem dX6_setThermostat_10 : decode cX6_setThermostat 10 = .ok (.aload 4, 2) := by decide +kernel
theorem dX6_setThermostat_12 : decode cX6_setThermostat 12 = .ok (.ifnull 27, 3) := by decide +kernel
theorem dX6_setThermostat_15 : decode cX6_setThermostat 15 = .ok (.iload_n 2, 1) := by decide +kernel
theorem dX6_setThermostat_16 : decode cX6_setThermostat 16 = .ok (.sipush 5000, 3) := by decide +kernel
theorem dX6_setThermostat_19 : decode cX6_setThermostat 19 = .ok (.ldc 78, 2) := by decide +kernel
theorem dX6_setThermostat_21 : decode cX6_setThermostat 21 = .ok (.invokestatic 40, 3) := by decide +kernel
theorem dX6_setThermostat_24 : decode cX6_setThermostat 24 = .ok (.ifCond .eq 15, 3) := by decide +kernel
theorem dX6_setThermostat_27 : decode cX6_setThermostat 27 = .ok (.iload_n 3, 1) := by decide +kernel
theorem dX6_setThermostat_28 : decode cX6_setThermostat 28 = .ok (.bipush 100, 2) := by decide +kernel
theorem dX6_setThermostat_30 : decode cX6_setThermostat 30 = .ok (.sipush 5000, 3) := by decide +kernel
theorem dX6_setThermostat_33 : decode cX6_setThermostat 33 = .ok (.invokestatic 40, 3) := by decide +kernel
theorem dX6_setThermostat_36 : decode cX6_setThermostat 36 = .ok (.ifCond .ne 6, 3) := by decide +kernel
theorem dX6_setThermostat_39 : decode cX6_setThermostat 39 = .ok (.ldc 44, 2) := by decide +kernel
theorem dX6_setThermostat_41 : decode cX6_setThermostat 41 = .ok (.ireturn, 1) := by decide +kernel
theorem dX6_setThermostat_42 : decode cX6_setThermostat 42 = .ok (.aload_n 0, 1) := by decide +kernel
theorem dX6_setThermostat_43 : decode cX6_setThermostat 43 = .ok (.getfield 22, 3) := by decide +kernel
theorem dX6_setThermostat_46 : decode cX6_setThermostat 46 = .ok (.aload_n 0, 1) := by decide +kernel
theorem dX6_setThermostat_47 : decode cX6_setThermostat 47 = .ok (.getfield 10, 3) := by decide +kernel
theorem dX6_setThermostat_50 : decode cX6_setThermostat 50 = .ok (.invokevirtual 50, 3) := by decide +kernel
theorem dX6_setThermostat_53 : decode cX6_setThermostat 53 = .ok (.aload 4, 2) := by decide +kernel
theorem dX6_setThermostat_55 : decode cX6_setThermostat 55 = .ok (.getfield 79, 3) := by decide +kernel
theorem dX6_setThermostat_58 : decode cX6_setThermostat 58 = .ok (.iload_n 2, 1) := by decide +kernel
theorem dX6_setThermostat_59 : decode cX6_setThermostat 59 = .ok (.if_icmp .ne 16, 3) := by decide +kernel
theorem dX6_setThermostat_62 : decode cX6_setThermostat 62 = .ok (.aload 4, 2) := by decide +kernel
theorem dX6_setThermostat_64 : decode cX6_setThermostat 64 = .ok (.getfield 84, 3) := by decide +kernel
theorem dX6_setThermostat_67 : decode cX6_setThermostat 67 = .ok (.iload_n 3, 1) := by decide +kernel
theorem dX6_setThermostat_68 : decode cX6_setThermostat 68 = .ok (.if_icmp .ne 7, 3) := by decide +kernel
theorem dX6_setThermostat_71 : decode cX6_setThermostat 71 = .ok (.iconst 1, 1) := by decide +kernel
theorem dX6_setThermostat_72 : decode cX6_setThermostat 72 = .ok (.goto 4, 3) := by decide +kernel
theorem dX6_setThermostat_75 : decode cX6_setThermostat 75 = .ok (.iconst 0, 1) := by decide +kernel
theorem dX6_setThermostat_76 : decode cX6_setThermostat 76 = .ok (.istore 5, 2) := by decide +kernel
theorem dX6_setThermostat_78 : decode cX6_setThermostat 78 = .ok (.aload 4, 2) := by decide +kernel
theorem dX6_setThermostat_80 : decode cX6_setThermostat 80 = .ok (.iload_n 2, 1) := by decide +kernel
theorem dX6_setThermostat_81 : decode cX6_setThermostat 81 = .ok (.putfield 79, 3) := by decide +kernel
theorem dX6_setThermostat_84 : decode cX6_setThermostat 84 = .ok (.aload 4, 2) := by decide +kernel
theorem dX6_setThermostat_86 : decode cX6_setThermostat 86 = .ok (.iload_n 3, 1) := by decide +kernel
theorem dX6_setThermostat_87 : decode cX6_setThermostat 87 = .ok (.putfield 84, 3) := by decide +kernel
theorem dX6_setThermostat_90 : decode cX6_setThermostat 90 = .ok (.iload 5, 2) := by decide +kernel
theorem dX6_setThermostat_92 : decode cX6_setThermostat 92 = .ok (.ifCond .eq 7, 3) := by decide +kernel
theorem dX6_setThermostat_95 : decode cX6_setThermostat 95 = .ok (.iconst 0, 1) := by decide +kernel
theorem dX6_setThermostat_96 : decode cX6_setThermostat 96 = .ok (.goto 4, 3) := by decide +kernel
theorem dX6_setThermostat_99 : decode cX6_setThermostat 99 = .ok (.iconst 1, 1) := by decide +kernel
theorem dX6_setThermostat_100 : decode cX6_setThermostat 100 = .ok (.ireturn, 1) := by decide +kernel
theorem dX6_setNumber_0 : decode cX6_setNumber 0 = .ok (.iload_n 1, 1) := by decide +kernel
theorem dX6_setNumber_1 : decode cX6_setNumber 1 = .ok (.iload_n 2, 1) := by decide +kernel
theorem dX6_setNumber_2 : decode cX6_setNumber 2 = .ok (.invokestatic 87, 3) := by decide +kernel
theorem dX6_setNumber_5 : decode cX6_setNumber 5 = .ok (.ifCond .ne 6, 3) := by decide +kernel
theorem dX6_setNumber_8 : decode cX6_setNumber 8 = .ok (.ldc 44, 2) := by decide +kernel
theorem dX6_setNumber_10 : decode cX6_setNumber 10 = .ok (.ireturn, 1) := by decide +kernel
theorem dX6_setNumber_11 : decode cX6_setNumber 11 = .ok (.aload_n 0, 1) := by decide +kernel
theorem dX6_setNumber_12 : decode cX6_setNumber 12 = .ok (.getfield 22, 3) := by decide +kernel
theorem dX6_setNumber_15 : decode cX6_setNumber 15 = .ok (.aload_n 0, 1) := by decide +kernel
theorem dX6_setNumber_16 : decode cX6_setNumber 16 = .ok (.getfield 10, 3) := by decide +kernel
theorem dX6_setNumber_19 : decode cX6_setNumber 19 = .ok (.invokevirtual 50, 3) := by decide +kernel
theorem dX6_setNumber_22 : decode cX6_setNumber 22 = .ok (.aload_n 0, 1) := by decide +kernel
theorem dX6_setNumber_23 : decode cX6_setNumber 23 = .ok (.getfield 10, 3) := by decide +kernel
theorem dX6_setNumber_26 : decode cX6_setNumber 26 = .ok (.iload_n 1, 1) := by decide +kernel
theorem dX6_setNumber_27 : decode cX6_setNumber 27 = .ok (.invokevirtual 90, 3) := by decide +kernel
theorem dX6_setNumber_30 : decode cX6_setNumber 30 = .ok (.istore_n 3, 1) := by decide +kernel
theorem dX6_setNumber_31 : decode cX6_setNumber 31 = .ok (.aload_n 0, 1) := by decide +kernel
theorem dX6_setNumber_32 : decode cX6_setNumber 32 = .ok (.getfield 10, 3) := by decide +kernel
theorem dX6_setNumber_35 : decode cX6_setNumber 35 = .ok (.iload_n 1, 1) := by decide +kernel
theorem dX6_setNumber_36 : decode cX6_setNumber 36 = .ok (.iload_n 2, 1) := by decide +kernel
theorem dX6_setNumber_37 : decode cX6_setNumber 37 = .ok (.invokevirtual 94, 3) := by decide +kernel
theorem dX6_setNumber_40 : decode cX6_setNumber 40 = .ok (.iload_n 3, 1) := by decide +kernel
theorem dX6_setNumber_41 : decode cX6_setNumber 41 = .ok (.ireturn, 1) := by decide +kernel
theorem dX6_warm_0 : decode cX6_warm 0 = .ok (.aload_n 0, 1) := by decide +kernel
theorem dX6_warm_1 : decode cX6_warm 1 = .ok (.getfield 10, 3) := by decide +kernel
theorem dX6_warm_4 : decode cX6_warm 4 = .ok (.iload_n 1, 1) := by decide +kernel
theorem dX6_warm_5 : decode cX6_warm 5 = .ok (.invokevirtual 74, 3) := by decide +kernel
theorem dX6_warm_8 : decode cX6_warm 8 = .ok (.astore_n 3, 1) := by decide +kernel
theorem dX6_warm_9 : decode cX6_warm 9 = .ok (.aload_n 3, 1) := by decide +kernel
theorem dX6_warm_10 : decode cX6_warm 10 = .ok (.ifnull 14, 3) := by decide +kernel
theorem dX6_warm_13 : decode cX6_warm 13 = .ok (.iload_n 2, 1) := by decide +kernel
theorem dX6_warm_14 : decode cX6_warm 14 = .ok (.ldc 98, 2) := by decide +kernel
theorem dX6_warm_16 : decode cX6_warm 16 = .ok (.ldc 99, 2) := by decide +kernel
theorem dX6_warm_18 : decode cX6_warm 18 = .ok (.invokestatic 40, 3) := by decide +kernel
theorem dX6_warm_21 : decode cX6_warm 21 = .ok (.ifCond .ne 6, 3) := by decide +kernel
theorem dX6_warm_24 : decode cX6_warm 24 = .ok (.ldc 44, 2) := by decide +kernel
theorem dX6_warm_26 : decode cX6_warm 26 = .ok (.ireturn, 1) := by decide +kernel
theorem dX6_warm_27 : decode cX6_warm 27 = .ok (.aload_n 3, 1) := by decide +kernel
theorem dX6_warm_28 : decode cX6_warm 28 = .ok (.aload_n 3, 1) := by decide +kernel
theorem dX6_warm_29 : decode cX6_warm 29 = .ok (.getfield 100, 3) := by decide +kernel
theorem dX6_warm_32 : decode cX6_warm 32 = .ok (.iload_n 2, 1) := by decide +kernel
theorem dX6_warm_33 : decode cX6_warm 33 = .ok (.iadd, 1) := by decide +kernel
theorem dX6_warm_34 : decode cX6_warm 34 = .ok (.invokevirtual 103, 3) := by decide +kernel
theorem dX6_warm_37 : decode cX6_warm 37 = .ok (.istore 4, 2) := by decide +kernel
theorem dX6_warm_39 : decode cX6_warm 39 = .ok (.iload 4, 2) := by decide +kernel
theorem dX6_warm_41 : decode cX6_warm 41 = .ok (.ldc 106, 2) := by decide +kernel
theorem dX6_warm_43 : decode cX6_warm 43 = .ok (.ldc 107, 2) := by decide +kernel
theorem dX6_warm_45 : decode cX6_warm 45 = .ok (.invokestatic 40, 3) := by decide +kernel
theorem dX6_warm_48 : decode cX6_warm 48 = .ok (.ifCond .ne 6, 3) := by decide +kernel
theorem dX6_warm_51 : decode cX6_warm 51 = .ok (.ldc 69, 2) := by decide +kernel
theorem dX6_warm_53 : decode cX6_warm 53 = .ok (.ireturn, 1) := by decide +kernel
theorem dX6_warm_54 : decode cX6_warm 54 = .ok (.aload_n 0, 1) := by decide +kernel
theorem dX6_warm_55 : decode cX6_warm 55 = .ok (.getfield 22, 3) := by decide +kernel
theorem dX6_warm_58 : decode cX6_warm 58 = .ok (.aload_n 0, 1) := by decide +kernel
theorem dX6_warm_59 : decode cX6_warm 59 = .ok (.getfield 10, 3) := by decide +kernel
theorem dX6_warm_62 : decode cX6_warm 62 = .ok (.invokevirtual 50, 3) := by decide +kernel
theorem dX6_warm_65 : decode cX6_warm 65 = .ok (.aload_n 3, 1) := by decide +kernel
theorem dX6_warm_66 : decode cX6_warm 66 = .ok (.iload_n 2, 1) := by decide +kernel
theorem dX6_warm_67 : decode cX6_warm 67 = .ok (.invokevirtual 108, 3) := by decide +kernel
theorem dX6_warm_70 : decode cX6_warm 70 = .ok (.iload 4, 2) := by decide +kernel
theorem dX6_warm_72 : decode cX6_warm 72 = .ok (.ireturn, 1) := by decide +kernel
theorem dX6_service_0 : decode cX6_service 0 = .ok (.aload_n 0, 1) := by decide +kernel
theorem dX6_service_1 : decode cX6_service 1 = .ok (.getfield 10, 3) := by decide +kernel
theorem dX6_service_4 : decode cX6_service 4 = .ok (.iload_n 1, 1) := by decide +kernel
theorem dX6_service_5 : decode cX6_service 5 = .ok (.invokevirtual 74, 3) := by decide +kernel
theorem dX6_service_8 : decode cX6_service 8 = .ok (.astore_n 2, 1) := by decide +kernel
theorem dX6_service_9 : decode cX6_service 9 = .ok (.aload_n 2, 1) := by decide +kernel
theorem dX6_service_10 : decode cX6_service 10 = .ok (.ifnonnull 6, 3) := by decide +kernel
theorem dX6_service_13 : decode cX6_service 13 = .ok (.ldc 44, 2) := by decide +kernel
theorem dX6_service_15 : decode cX6_service 15 = .ok (.ireturn, 1) := by decide +kernel
theorem dX6_service_16 : decode cX6_service 16 = .ok (.aload_n 0, 1) := by decide +kernel
theorem dX6_service_17 : decode cX6_service 17 = .ok (.getfield 22, 3) := by decide +kernel
theorem dX6_service_20 : decode cX6_service 20 = .ok (.aload_n 0, 1) := by decide +kernel
theorem dX6_service_21 : decode cX6_service 21 = .ok (.getfield 10, 3) := by decide +kernel
theorem dX6_service_24 : decode cX6_service 24 = .ok (.invokevirtual 50, 3) := by decide +kernel
theorem dX6_service_27 : decode cX6_service 27 = .ok (.aload_n 2, 1) := by decide +kernel
theorem dX6_service_28 : decode cX6_service 28 = .ok (.getfield 112, 3) := by decide +kernel
theorem dX6_service_31 : decode cX6_service 31 = .ok (.istore_n 3, 1) := by decide +kernel
theorem dX6_service_32 : decode cX6_service 32 = .ok (.aload_n 2, 1) := by decide +kernel
theorem dX6_service_33 : decode cX6_service 33 = .ok (.invokevirtual 115, 3) := by decide +kernel
theorem dX6_service_36 : decode cX6_service 36 = .ok (.iload_n 3, 1) := by decide +kernel
theorem dX6_service_37 : decode cX6_service 37 = .ok (.ireturn, 1) := by decide +kernel
theorem dX6_resetCutout_0 : decode cX6_resetCutout 0 = .ok (.aload_n 0, 1) := by decide +kernel
theorem dX6_resetCutout_1 : decode cX6_resetCutout 1 = .ok (.getfield 10, 3) := by decide +kernel
theorem dX6_resetCutout_4 : decode cX6_resetCutout 4 = .ok (.iload_n 1, 1) := by decide +kernel
theorem dX6_resetCutout_5 : decode cX6_resetCutout 5 = .ok (.invokevirtual 74, 3) := by decide +kernel
theorem dX6_resetCutout_8 : decode cX6_resetCutout 8 = .ok (.astore_n 2, 1) := by decide +kernel
theorem dX6_resetCutout_9 : decode cX6_resetCutout 9 = .ok (.aload_n 2, 1) := by decide +kernel
theorem dX6_resetCutout_10 : decode cX6_resetCutout 10 = .ok (.ifnonnull 6, 3) := by decide +kernel
theorem dX6_resetCutout_13 : decode cX6_resetCutout 13 = .ok (.ldc 44, 2) := by decide +kernel
theorem dX6_resetCutout_15 : decode cX6_resetCutout 15 = .ok (.ireturn, 1) := by decide +kernel
theorem dX6_resetCutout_16 : decode cX6_resetCutout 16 = .ok (.aload_n 2, 1) := by decide +kernel
theorem dX6_resetCutout_17 : decode cX6_resetCutout 17 = .ok (.invokevirtual 118, 3) := by decide +kernel
theorem dX6_resetCutout_20 : decode cX6_resetCutout 20 = .ok (.istore_n 3, 1) := by decide +kernel
theorem dX6_resetCutout_21 : decode cX6_resetCutout 21 = .ok (.aload_n 2, 1) := by decide +kernel
theorem dX6_resetCutout_22 : decode cX6_resetCutout 22 = .ok (.getfield 122, 3) := by decide +kernel
theorem dX6_resetCutout_25 : decode cX6_resetCutout 25 = .ok (.ifCond .eq 15, 3) := by decide +kernel
theorem dX6_resetCutout_28 : decode cX6_resetCutout 28 = .ok (.iload_n 3, 1) := by decide +kernel
theorem dX6_resetCutout_29 : decode cX6_resetCutout 29 = .ok (.aload_n 0, 1) := by decide +kernel
theorem dX6_resetCutout_30 : decode cX6_resetCutout 30 = .ok (.getfield 10, 3) := by decide +kernel
theorem dX6_resetCutout_33 : decode cX6_resetCutout 33 = .ok (.iconst 5, 1) := by decide +kernel
theorem dX6_resetCutout_34 : decode cX6_resetCutout 34 = .ok (.invokevirtual 90, 3) := by decide +kernel
theorem dX6_resetCutout_37 : decode cX6_resetCutout 37 = .ok (.if_icmp .le 6, 3) := by decide +kernel
theorem dX6_resetCutout_40 : decode cX6_resetCutout 40 = .ok (.ldc 69, 2) := by decide +kernel
theorem dX6_resetCutout_42 : decode cX6_resetCutout 42 = .ok (.ireturn, 1) := by decide +kernel
theorem dX6_resetCutout_43 : decode cX6_resetCutout 43 = .ok (.aload_n 0, 1) := by decide +kernel
theorem dX6_resetCutout_44 : decode cX6_resetCutout 44 = .ok (.getfield 22, 3) := by decide +kernel
theorem dX6_resetCutout_47 : decode cX6_resetCutout 47 = .ok (.aload_n 0, 1) := by decide +kernel
theorem dX6_resetCutout_48 : decode cX6_resetCutout 48 = .ok (.getfield 10, 3) := by decide +kernel
theorem dX6_resetCutout_51 : decode cX6_resetCutout 51 = .ok (.invokevirtual 50, 3) := by decide +kernel
theorem dX6_resetCutout_54 : decode cX6_resetCutout 54 = .ok (.aload_n 2, 1) := by decide +kernel
theorem dX6_resetCutout_55 : decode cX6_resetCutout 55 = .ok (.iconst 0, 1) := by decide +kernel
theorem dX6_resetCutout_56 : decode cX6_resetCutout 56 = .ok (.putfield 122, 3) := by decide +kernel
theorem dX6_resetCutout_59 : decode cX6_resetCutout 59 = .ok (.iload_n 3, 1) := by decide +kernel
theorem dX6_resetCutout_60 : decode cX6_resetCutout 60 = .ok (.ireturn, 1) := by decide +kernel
theorem dX6_room_0 : decode cX6_room 0 = .ok (.aload_n 0, 1) := by decide +kernel
theorem dX6_room_1 : decode cX6_room 1 = .ok (.getfield 10, 3) := by decide +kernel
theorem dX6_room_4 : decode cX6_room 4 = .ok (.iload_n 1, 1) := by decide +kernel
theorem dX6_room_5 : decode cX6_room 5 = .ok (.invokevirtual 74, 3) := by decide +kernel
theorem dX6_room_8 : decode cX6_room 8 = .ok (.astore_n 3, 1) := by decide +kernel
theorem dX6_room_9 : decode cX6_room 9 = .ok (.aload_n 3, 1) := by decide +kernel
theorem dX6_room_10 : decode cX6_room 10 = .ok (.ifnonnull 8, 3) := by decide +kernel
theorem dX6_room_13 : decode cX6_room 13 = .ok (.ldc 44, 2) := by decide +kernel
theorem dX6_room_15 : decode cX6_room 15 = .ok (.goto 8, 3) := by decide +kernel
theorem dX6_room_18 : decode cX6_room 18 = .ok (.aload_n 3, 1) := by decide +kernel
theorem dX6_room_19 : decode cX6_room 19 = .ok (.iload_n 2, 1) := by decide +kernel
theorem dX6_room_20 : decode cX6_room 20 = .ok (.invokevirtual 126, 3) := by decide +kernel
theorem dX6_room_23 : decode cX6_room 23 = .ok (.ireturn, 1) := by decide +kernel
theorem dX6_book_0 : decode cX6_book 0 = .ok (.aload_n 0, 1) := by decide +kernel
theorem dX6_book_1 : decode cX6_book 1 = .ok (.getfield 10, 3) := by decide +kernel
theorem dX6_book_4 : decode cX6_book 4 = .ok (.iload_n 1, 1) := by decide +kernel
theorem dX6_book_5 : decode cX6_book 5 = .ok (.invokevirtual 74, 3) := by decide +kernel
theorem dX6_book_8 : decode cX6_book 8 = .ok (.astore_n 3, 1) := by decide +kernel
theorem dX6_book_9 : decode cX6_book 9 = .ok (.aload_n 3, 1) := by decide +kernel
theorem dX6_book_10 : decode cX6_book 10 = .ok (.ifnonnull 8, 3) := by decide +kernel
theorem dX6_book_13 : decode cX6_book 13 = .ok (.ldc 44, 2) := by decide +kernel
theorem dX6_book_15 : decode cX6_book 15 = .ok (.goto 11, 3) := by decide +kernel
theorem dX6_book_18 : decode cX6_book 18 = .ok (.aload_n 3, 1) := by decide +kernel
theorem dX6_book_19 : decode cX6_book 19 = .ok (.getfield 129, 3) := by decide +kernel
theorem dX6_book_22 : decode cX6_book 22 = .ok (.iload_n 2, 1) := by decide +kernel
theorem dX6_book_23 : decode cX6_book 23 = .ok (.invokevirtual 133, 3) := by decide +kernel
theorem dX6_book_26 : decode cX6_book 26 = .ok (.ireturn, 1) := by decide +kernel
theorem dX6_link_0 : decode cX6_link 0 = .ok (.aload_n 0, 1) := by decide +kernel
theorem dX6_link_1 : decode cX6_link 1 = .ok (.getfield 10, 3) := by decide +kernel
theorem dX6_link_4 : decode cX6_link 4 = .ok (.iload_n 1, 1) := by decide +kernel
theorem dX6_link_5 : decode cX6_link 5 = .ok (.iload_n 2, 1) := by decide +kernel
theorem dX6_link_6 : decode cX6_link 6 = .ok (.invokevirtual 58, 3) := by decide +kernel
theorem dX6_link_9 : decode cX6_link 9 = .ok (.ifCond .eq 15, 3) := by decide +kernel
theorem dX6_link_12 : decode cX6_link 12 = .ok (.aload_n 0, 1) := by decide +kernel
theorem dX6_link_13 : decode cX6_link 13 = .ok (.getfield 10, 3) := by decide +kernel
theorem dX6_link_16 : decode cX6_link 16 = .ok (.iload_n 1, 1) := by decide +kernel
theorem dX6_link_17 : decode cX6_link 17 = .ok (.iload_n 2, 1) := by decide +kernel
theorem dX6_link_18 : decode cX6_link 18 = .ok (.invokevirtual 62, 3) := by decide +kernel
theorem dX6_link_21 : decode cX6_link 21 = .ok (.goto 5, 3) := by decide +kernel
theorem dX6_link_24 : decode cX6_link 24 = .ok (.ldc 44, 2) := by decide +kernel
theorem dX6_link_26 : decode cX6_link 26 = .ok (.ireturn, 1) := by decide +kernel
theorem dX6_count_0 : decode cX6_count 0 = .ok (.iload_n 1, 1) := by decide +kernel
theorem dX6_count_1 : decode cX6_count 1 = .ok (.iconst 0, 1) := by decide +kernel
theorem dX6_count_2 : decode cX6_count 2 = .ok (.bipush 6, 2) := by decide +kernel
theorem dX6_count_4 : decode cX6_count 4 = .ok (.invokestatic 40, 3) := by decide +kernel
theorem dX6_count_7 : decode cX6_count 7 = .ok (.ifCond .eq 12, 3) := by decide +kernel
theorem dX6_count_10 : decode cX6_count 10 = .ok (.aload_n 0, 1) := by decide +kernel
theorem dX6_count_11 : decode cX6_count 11 = .ok (.getfield 10, 3) := by decide +kernel
theorem dX6_count_14 : decode cX6_count 14 = .ok (.iload_n 1, 1) := by decide +kernel
theorem dX6_count_15 : decode cX6_count 15 = .ok (.invokevirtual 90, 3) := by decide +kernel
theorem dX6_count_18 : decode cX6_count 18 = .ok (.ireturn, 1) := by decide +kernel
theorem dX6_count_19 : decode cX6_count 19 = .ok (.iload_n 1, 1) := by decide +kernel
theorem dX6_count_20 : decode cX6_count 20 = .ok (.tableswitch 103 7 13 #[44, 52, 60, 71, 79, 87, 95], 44) := by decide +kernel
theorem dX6_count_64 : decode cX6_count 64 = .ok (.aload_n 0, 1) := by decide +kernel
theorem dX6_count_65 : decode cX6_count 65 = .ok (.getfield 10, 3) := by decide +kernel
theorem dX6_count_68 : decode cX6_count 68 = .ok (.getfield 45, 3) := by decide +kernel
theorem dX6_count_71 : decode cX6_count 71 = .ok (.ireturn, 1) := by decide +kernel
theorem dX6_count_72 : decode cX6_count 72 = .ok (.aload_n 0, 1) := by decide +kernel
theorem dX6_count_73 : decode cX6_count 73 = .ok (.getfield 10, 3) := by decide +kernel
theorem dX6_count_76 : decode cX6_count 76 = .ok (.getfield 138, 3) := by decide +kernel
theorem dX6_count_79 : decode cX6_count 79 = .ok (.ireturn, 1) := by decide +kernel
theorem dX6_count_80 : decode cX6_count 80 = .ok (.aload_n 0, 1) := by decide +kernel
theorem dX6_count_81 : decode cX6_count 81 = .ok (.getfield 10, 3) := by decide +kernel
theorem dX6_count_84 : decode cX6_count 84 = .ok (.getfield 141, 3) := by decide +kernel
theorem dX6_count_87 : decode cX6_count 87 = .ok (.getfield 144, 3) := by decide +kernel
theorem dX6_count_90 : decode cX6_count 90 = .ok (.ireturn, 1) := by decide +kernel
theorem dX6_count_91 : decode cX6_count 91 = .ok (.aload_n 0, 1) := by decide +kernel
theorem dX6_count_92 : decode cX6_count 92 = .ok (.getfield 10, 3) := by decide +kernel
theorem dX6_count_95 : decode cX6_count 95 = .ok (.invokevirtual 147, 3) := by decide +kernel
theorem dX6_count_98 : decode cX6_count 98 = .ok (.ireturn, 1) := by decide +kernel
theorem dX6_count_99 : decode cX6_count 99 = .ok (.aload_n 0, 1) := by decide +kernel
theorem dX6_count_100 : decode cX6_count 100 = .ok (.getfield 10, 3) := by decide +kernel
theorem dX6_count_103 : decode cX6_count 103 = .ok (.invokevirtual 150, 3) := by decide +kernel
theorem dX6_count_106 : decode cX6_count 106 = .ok (.ireturn, 1) := by decide +kernel
theorem dX6_count_107 : decode cX6_count 107 = .ok (.aload_n 0, 1) := by decide +kernel
theorem dX6_count_108 : decode cX6_count 108 = .ok (.getfield 29, 3) := by decide +kernel
theorem dX6_count_111 : decode cX6_count 111 = .ok (.getfield 153, 3) := by decide +kernel
theorem dX6_count_114 : decode cX6_count 114 = .ok (.ireturn, 1) := by decide +kernel
theorem dX6_count_115 : decode cX6_count 115 = .ok (.aload_n 0, 1) := by decide +kernel
theorem dX6_count_116 : decode cX6_count 116 = .ok (.getfield 22, 3) := by decide +kernel
theorem dX6_count_119 : decode cX6_count 119 = .ok (.getfield 156, 3) := by decide +kernel
theorem dX6_count_122 : decode cX6_count 122 = .ok (.ireturn, 1) := by decide +kernel
theorem dX6_count_123 : decode cX6_count 123 = .ok (.ldc 44, 2) := by decide +kernel
theorem dX6_count_125 : decode cX6_count 125 = .ok (.ireturn, 1) := by decide +kernel
theorem dX6_pass_0 : decode cX6_pass 0 = .ok (.iload_n 1, 1) := by decide +kernel
theorem dX6_pass_1 : decode cX6_pass 1 = .ok (.iconst 1, 1) := by decide +kernel
theorem dX6_pass_2 : decode cX6_pass 2 = .ok (.sipush 500, 3) := by decide +kernel
theorem dX6_pass_5 : decode cX6_pass 5 = .ok (.invokestatic 40, 3) := by decide +kernel
theorem dX6_pass_8 : decode cX6_pass 8 = .ok (.ifCond .ne 6, 3) := by decide +kernel
theorem dX6_pass_11 : decode cX6_pass 11 = .ok (.ldc 44, 2) := by decide +kernel
theorem dX6_pass_13 : decode cX6_pass 13 = .ok (.ireturn, 1) := by decide +kernel
theorem dX6_pass_14 : decode cX6_pass 14 = .ok (.aload_n 0, 1) := by decide +kernel
theorem dX6_pass_15 : decode cX6_pass 15 = .ok (.getfield 10, 3) := by decide +kernel
theorem dX6_pass_18 : decode cX6_pass 18 = .ok (.getfield 45, 3) := by decide +kernel
theorem dX6_pass_21 : decode cX6_pass 21 = .ok (.ifCond .ne 6, 3) := by decide +kernel
theorem dX6_pass_24 : decode cX6_pass 24 = .ok (.ldc 69, 2) := by decide +kernel
theorem dX6_pass_26 : decode cX6_pass 26 = .ok (.ireturn, 1) := by decide +kernel
theorem dX6_pass_27 : decode cX6_pass 27 = .ok (.iload_n 1, 1) := by decide +kernel
theorem dX6_pass_28 : decode cX6_pass 28 = .ok (.sipush 20000, 3) := by decide +kernel
theorem dX6_pass_31 : decode cX6_pass 31 = .ok (.aload_n 0, 1) := by decide +kernel
theorem dX6_pass_32 : decode cX6_pass 32 = .ok (.getfield 10, 3) := by decide +kernel
theorem dX6_pass_35 : decode cX6_pass 35 = .ok (.getfield 138, 3) := by decide +kernel
theorem dX6_pass_38 : decode cX6_pass 38 = .ok (.isub, 1) := by decide +kernel
theorem dX6_pass_39 : decode cX6_pass 39 = .ok (.if_icmp .le 6, 3) := by decide +kernel
theorem dX6_pass_42 : decode cX6_pass 42 = .ok (.ldc 49, 2) := by decide +kernel
theorem dX6_pass_44 : decode cX6_pass 44 = .ok (.ireturn, 1) := by decide +kernel
theorem dX6_pass_45 : decode cX6_pass 45 = .ok (.aload_n 0, 1) := by decide +kernel
theorem dX6_pass_46 : decode cX6_pass 46 = .ok (.getfield 22, 3) := by decide +kernel
theorem dX6_pass_49 : decode cX6_pass 49 = .ok (.aload_n 0, 1) := by decide +kernel
theorem dX6_pass_50 : decode cX6_pass 50 = .ok (.getfield 10, 3) := by decide +kernel
theorem dX6_pass_53 : decode cX6_pass 53 = .ok (.invokevirtual 50, 3) := by decide +kernel
theorem dX6_pass_56 : decode cX6_pass 56 = .ok (.aload_n 0, 1) := by decide +kernel
theorem dX6_pass_57 : decode cX6_pass 57 = .ok (.getfield 10, 3) := by decide +kernel
theorem dX6_pass_60 : decode cX6_pass 60 = .ok (.iload_n 1, 1) := by decide +kernel
theorem dX6_pass_61 : decode cX6_pass 61 = .ok (.invokevirtual 172, 3) := by decide +kernel
theorem dX6_pass_64 : decode cX6_pass 64 = .ok (.ireturn, 1) := by decide +kernel
theorem dX6_minutesToSuspect_0 : decode cX6_minutesToSuspect 0 = .ok (.aload_n 0, 1) := by decide +kernel
theorem dX6_minutesToSuspect_1 : decode cX6_minutesToSuspect 1 = .ok (.getfield 16, 3) := by decide +kernel
theorem dX6_minutesToSuspect_4 : decode cX6_minutesToSuspect 4 = .ok (.aload_n 0, 1) := by decide +kernel
theorem dX6_minutesToSuspect_5 : decode cX6_minutesToSuspect 5 = .ok (.getfield 10, 3) := by decide +kernel
theorem dX6_minutesToSuspect_8 : decode cX6_minutesToSuspect 8 = .ok (.invokevirtual 175, 3) := by decide +kernel
theorem dX6_minutesToSuspect_11 : decode cX6_minutesToSuspect 11 = .ok (.aload_n 0, 1) := by decide +kernel
theorem dX6_minutesToSuspect_12 : decode cX6_minutesToSuspect 12 = .ok (.getfield 16, 3) := by decide +kernel
theorem dX6_minutesToSuspect_15 : decode cX6_minutesToSuspect 15 = .ok (.iload_n 1, 1) := by decide +kernel
theorem dX6_minutesToSuspect_16 : decode cX6_minutesToSuspect 16 = .ok (.invokevirtual 74, 3) := by decide +kernel
theorem dX6_minutesToSuspect_19 : decode cX6_minutesToSuspect 19 = .ok (.astore_n 2, 1) := by decide +kernel
theorem dX6_minutesToSuspect_20 : decode cX6_minutesToSuspect 20 = .ok (.aload_n 2, 1) := by decide +kernel
theorem dX6_minutesToSuspect_21 : decode cX6_minutesToSuspect 21 = .ok (.ifnonnull 6, 3) := by decide +kernel
theorem dX6_minutesToSuspect_24 : decode cX6_minutesToSuspect 24 = .ok (.ldc 44, 2) := by decide +kernel
theorem dX6_minutesToSuspect_26 : decode cX6_minutesToSuspect 26 = .ok (.ireturn, 1) := by decide +kernel
theorem dX6_minutesToSuspect_27 : decode cX6_minutesToSuspect 27 = .ok (.iconst 0, 1) := by decide +kernel
theorem dX6_minutesToSuspect_28 : decode cX6_minutesToSuspect 28 = .ok (.istore_n 3, 1) := by decide +kernel
theorem dX6_minutesToSuspect_29 : decode cX6_minutesToSuspect 29 = .ok (.iload_n 3, 1) := by decide +kernel
theorem dX6_minutesToSuspect_30 : decode cX6_minutesToSuspect 30 = .ok (.sipush 1000, 3) := by decide +kernel
theorem dX6_minutesToSuspect_33 : decode cX6_minutesToSuspect 33 = .ok (.if_icmp .ge 30, 3) := by decide +kernel
theorem dX6_minutesToSuspect_36 : decode cX6_minutesToSuspect 36 = .ok (.aload_n 0, 1) := by decide +kernel
theorem dX6_minutesToSuspect_37 : decode cX6_minutesToSuspect 37 = .ok (.getfield 16, 3) := by decide +kernel
theorem dX6_minutesToSuspect_40 : decode cX6_minutesToSuspect 40 = .ok (.aload_n 2, 1) := by decide +kernel
theorem dX6_minutesToSuspect_41 : decode cX6_minutesToSuspect 41 = .ok (.invokevirtual 177, 3) := by decide +kernel
theorem dX6_minutesToSuspect_44 : decode cX6_minutesToSuspect 44 = .ok (.ifCond .eq 5, 3) := by decide +kernel
theorem dX6_minutesToSuspect_47 : decode cX6_minutesToSuspect 47 = .ok (.iload_n 3, 1) := by decide +kernel
theorem dX6_minutesToSuspect_48 : decode cX6_minutesToSuspect 48 = .ok (.ireturn, 1) := by decide +kernel
theorem dX6_minutesToSuspect_49 : decode cX6_minutesToSuspect 49 = .ok (.aload_n 0, 1) := by decide +kernel
theorem dX6_minutesToSuspect_50 : decode cX6_minutesToSuspect 50 = .ok (.getfield 16, 3) := by decide +kernel
theorem dX6_minutesToSuspect_53 : decode cX6_minutesToSuspect 53 = .ok (.invokevirtual 181, 3) := by decide +kernel
theorem dX6_minutesToSuspect_56 : decode cX6_minutesToSuspect 56 = .ok (.pop, 1) := by decide +kernel
theorem dX6_minutesToSuspect_57 : decode cX6_minutesToSuspect 57 = .ok (.iinc 3 1, 3) := by decide +kernel
theorem dX6_minutesToSuspect_60 : decode cX6_minutesToSuspect 60 = .ok (.goto (-31), 3) := by decide +kernel
theorem dX6_minutesToSuspect_63 : decode cX6_minutesToSuspect 63 = .ok (.aload_n 0, 1) := by decide +kernel
theorem dX6_minutesToSuspect_64 : decode cX6_minutesToSuspect 64 = .ok (.getfield 16, 3) := by decide +kernel
theorem dX6_minutesToSuspect_67 : decode cX6_minutesToSuspect 67 = .ok (.aload_n 2, 1) := by decide +kernel
theorem dX6_minutesToSuspect_68 : decode cX6_minutesToSuspect 68 = .ok (.invokevirtual 177, 3) := by decide +kernel
theorem dX6_minutesToSuspect_71 : decode cX6_minutesToSuspect 71 = .ok (.ifCond .eq 9, 3) := by decide +kernel
theorem dX6_minutesToSuspect_74 : decode cX6_minutesToSuspect 74 = .ok (.sipush 1000, 3) := by decide +kernel
theorem dX6_minutesToSuspect_77 : decode cX6_minutesToSuspect 77 = .ok (.goto 5, 3) := by decide +kernel
theorem dX6_minutesToSuspect_80 : decode cX6_minutesToSuspect 80 = .ok (.ldc 184, 2) := by decide +kernel
theorem dX6_minutesToSuspect_82 : decode cX6_minutesToSuspect 82 = .ok (.ireturn, 1) := by decide +kernel
theorem dX6_heatIn_0 : decode cX6_heatIn 0 = .ok (.iload_n 1, 1) := by decide +kernel
theorem dX6_heatIn_1 : decode cX6_heatIn 1 = .ok (.iconst 1, 1) := by decide +kernel
theorem dX6_heatIn_2 : decode cX6_heatIn 2 = .ok (.sipush 1000, 3) := by decide +kernel
theorem dX6_heatIn_5 : decode cX6_heatIn 5 = .ok (.invokestatic 40, 3) := by decide +kernel
theorem dX6_heatIn_8 : decode cX6_heatIn 8 = .ok (.ifCond .ne 6, 3) := by decide +kernel
theorem dX6_heatIn_11 : decode cX6_heatIn 11 = .ok (.ldc 44, 2) := by decide +kernel
theorem dX6_heatIn_13 : decode cX6_heatIn 13 = .ok (.ireturn, 1) := by decide +kernel
theorem dX6_heatIn_14 : decode cX6_heatIn 14 = .ok (.aload_n 0, 1) := by decide +kernel
theorem dX6_heatIn_15 : decode cX6_heatIn 15 = .ok (.getfield 16, 3) := by decide +kernel
theorem dX6_heatIn_18 : decode cX6_heatIn 18 = .ok (.aload_n 0, 1) := by decide +kernel
theorem dX6_heatIn_19 : decode cX6_heatIn 19 = .ok (.getfield 10, 3) := by decide +kernel
theorem dX6_heatIn_22 : decode cX6_heatIn 22 = .ok (.invokevirtual 175, 3) := by decide +kernel
theorem dX6_heatIn_25 : decode cX6_heatIn 25 = .ok (.aload_n 0, 1) := by decide +kernel
theorem dX6_heatIn_26 : decode cX6_heatIn 26 = .ok (.getfield 16, 3) := by decide +kernel
theorem dX6_heatIn_29 : decode cX6_heatIn 29 = .ok (.iload_n 1, 1) := by decide +kernel
theorem dX6_heatIn_30 : decode cX6_heatIn 30 = .ok (.invokevirtual 172, 3) := by decide +kernel
theorem dX6_heatIn_33 : decode cX6_heatIn 33 = .ok (.pop, 1) := by decide +kernel
theorem dX6_heatIn_34 : decode cX6_heatIn 34 = .ok (.aload_n 0, 1) := by decide +kernel
theorem dX6_heatIn_35 : decode cX6_heatIn 35 = .ok (.getfield 16, 3) := by decide +kernel
theorem dX6_heatIn_38 : decode cX6_heatIn 38 = .ok (.invokevirtual 185, 3) := by decide +kernel
theorem dX6_heatIn_41 : decode cX6_heatIn 41 = .ok (.aload_n 0, 1) := by decide +kernel
theorem dX6_heatIn_42 : decode cX6_heatIn 42 = .ok (.getfield 10, 3) := by decide +kernel
theorem dX6_heatIn_45 : decode cX6_heatIn 45 = .ok (.invokevirtual 185, 3) := by decide +kernel
theorem dX6_heatIn_48 : decode cX6_heatIn 48 = .ok (.isub, 1) := by decide +kernel
theorem dX6_heatIn_49 : decode cX6_heatIn 49 = .ok (.ireturn, 1) := by decide +kernel
theorem dX6_undo_0 : decode cX6_undo 0 = .ok (.aload_n 0, 1) := by decide +kernel
theorem dX6_undo_1 : decode cX6_undo 1 = .ok (.getfield 22, 3) := by decide +kernel
theorem dX6_undo_4 : decode cX6_undo 4 = .ok (.getfield 156, 3) := by decide +kernel
theorem dX6_undo_7 : decode cX6_undo 7 = .ok (.ifCond .ne 6, 3) := by decide +kernel
theorem dX6_undo_10 : decode cX6_undo 10 = .ok (.ldc 69, 2) := by decide +kernel
theorem dX6_undo_12 : decode cX6_undo 12 = .ok (.ireturn, 1) := by decide +kernel
theorem dX6_undo_13 : decode cX6_undo 13 = .ok (.aload_n 0, 1) := by decide +kernel
theorem dX6_undo_14 : decode cX6_undo 14 = .ok (.getfield 22, 3) := by decide +kernel
theorem dX6_undo_17 : decode cX6_undo 17 = .ok (.aload_n 0, 1) := by decide +kernel
theorem dX6_undo_18 : decode cX6_undo 18 = .ok (.getfield 10, 3) := by decide +kernel
theorem dX6_undo_21 : decode cX6_undo 21 = .ok (.invokevirtual 199, 3) := by decide +kernel
theorem dX6_undo_24 : decode cX6_undo 24 = .ok (.aload_n 0, 1) := by decide +kernel
theorem dX6_undo_25 : decode cX6_undo 25 = .ok (.getfield 22, 3) := by decide +kernel
theorem dX6_undo_28 : decode cX6_undo 28 = .ok (.getfield 156, 3) := by decide +kernel
theorem dX6_undo_31 : decode cX6_undo 31 = .ok (.ireturn, 1) := by decide +kernel
theorem dX6_isNumberInRange_0 : decode cX6_isNumberInRange 0 = .ok (.iload_n 0, 1) := by decide +kernel
theorem dX6_isNumberInRange_1 : decode cX6_isNumberInRange 1 = .ok (.ifCond .lt 40, 3) := by decide +kernel
theorem dX6_isNumberInRange_4 : decode cX6_isNumberInRange 4 = .ok (.iload_n 0, 1) := by decide +kernel
theorem dX6_isNumberInRange_5 : decode cX6_isNumberInRange 5 = .ok (.getstatic 202, 3) := by decide +kernel
theorem dX6_isNumberInRange_8 : decode cX6_isNumberInRange 8 = .ok (.arraylength, 1) := by decide +kernel
theorem dX6_isNumberInRange_9 : decode cX6_isNumberInRange 9 = .ok (.if_icmp .ge 32, 3) := by decide +kernel
theorem dX6_isNumberInRange_12 : decode cX6_isNumberInRange 12 = .ok (.iload_n 0, 1) := by decide +kernel
theorem dX6_isNumberInRange_13 : decode cX6_isNumberInRange 13 = .ok (.getstatic 206, 3) := by decide +kernel
theorem dX6_isNumberInRange_16 : decode cX6_isNumberInRange 16 = .ok (.arraylength, 1) := by decide +kernel
theorem dX6_isNumberInRange_17 : decode cX6_isNumberInRange 17 = .ok (.if_icmp .ge 24, 3) := by decide +kernel
theorem dX6_isNumberInRange_20 : decode cX6_isNumberInRange 20 = .ok (.iload_n 1, 1) := by decide +kernel
theorem dX6_isNumberInRange_21 : decode cX6_isNumberInRange 21 = .ok (.getstatic 202, 3) := by decide +kernel
theorem dX6_isNumberInRange_24 : decode cX6_isNumberInRange 24 = .ok (.iload_n 0, 1) := by decide +kernel
theorem dX6_isNumberInRange_25 : decode cX6_isNumberInRange 25 = .ok (.iaload, 1) := by decide +kernel
theorem dX6_isNumberInRange_26 : decode cX6_isNumberInRange 26 = .ok (.getstatic 206, 3) := by decide +kernel
theorem dX6_isNumberInRange_29 : decode cX6_isNumberInRange 29 = .ok (.iload_n 0, 1) := by decide +kernel
theorem dX6_isNumberInRange_30 : decode cX6_isNumberInRange 30 = .ok (.iaload, 1) := by decide +kernel
theorem dX6_isNumberInRange_31 : decode cX6_isNumberInRange 31 = .ok (.invokestatic 40, 3) := by decide +kernel
theorem dX6_isNumberInRange_34 : decode cX6_isNumberInRange 34 = .ok (.ifCond .eq 7, 3) := by decide +kernel
theorem dX6_isNumberInRange_37 : decode cX6_isNumberInRange 37 = .ok (.iconst 1, 1) := by decide +kernel
theorem dX6_isNumberInRange_38 : decode cX6_isNumberInRange 38 = .ok (.goto 4, 3) := by decide +kernel
theorem dX6_isNumberInRange_41 : decode cX6_isNumberInRange 41 = .ok (.iconst 0, 1) := by decide +kernel
theorem dX6_isNumberInRange_42 : decode cX6_isNumberInRange 42 = .ok (.ireturn, 1) := by decide +kernel
theorem dX6_within_0 : decode cX6_within 0 = .ok (.iload_n 0, 1) := by decide +kernel
theorem dX6_within_1 : decode cX6_within 1 = .ok (.iload_n 1, 1) := by decide +kernel
theorem dX6_within_2 : decode cX6_within 2 = .ok (.if_icmp .lt 12, 3) := by decide +kernel
theorem dX6_within_5 : decode cX6_within 5 = .ok (.iload_n 0, 1) := by decide +kernel
theorem dX6_within_6 : decode cX6_within 6 = .ok (.iload_n 2, 1) := by decide +kernel
theorem dX6_within_7 : decode cX6_within 7 = .ok (.if_icmp .gt 7, 3) := by decide +kernel
theorem dX6_within_10 : decode cX6_within 10 = .ok (.iconst 1, 1) := by decide +kernel
theorem dX6_within_11 : decode cX6_within 11 = .ok (.goto 4, 3) := by decide +kernel
theorem dX6_within_14 : decode cX6_within 14 = .ok (.iconst 0, 1) := by decide +kernel
theorem dX6_within_15 : decode cX6_within 15 = .ok (.ireturn, 1) := by decide +kernel
theorem dJ9_floorDiv_7cf53_0 : decode cJ9_floorDiv_7cf53 0 = .ok (.iload_n 0, 1) := by decide +kernel
theorem dJ9_floorDiv_7cf53_1 : decode cJ9_floorDiv_7cf53 1 = .ok (.iload_n 1, 1) := by decide +kernel
theorem dJ9_floorDiv_7cf53_2 : decode cJ9_floorDiv_7cf53 2 = .ok (.idiv, 1) := by decide +kernel
theorem dJ9_floorDiv_7cf53_3 : decode cJ9_floorDiv_7cf53 3 = .ok (.istore_n 2, 1) := by decide +kernel
theorem dJ9_floorDiv_7cf53_4 : decode cJ9_floorDiv_7cf53 4 = .ok (.iload_n 0, 1) := by decide +kernel
theorem dJ9_floorDiv_7cf53_5 : decode cJ9_floorDiv_7cf53 5 = .ok (.iload_n 1, 1) := by decide +kernel
theorem dJ9_floorDiv_7cf53_6 : decode cJ9_floorDiv_7cf53 6 = .ok (.ixor, 1) := by decide +kernel
theorem dJ9_floorDiv_7cf53_7 : decode cJ9_floorDiv_7cf53 7 = .ok (.ifCond .ge 14, 3) := by decide +kernel
theorem dJ9_floorDiv_7cf53_10 : decode cJ9_floorDiv_7cf53 10 = .ok (.iload_n 2, 1) := by decide +kernel
theorem dJ9_floorDiv_7cf53_11 : decode cJ9_floorDiv_7cf53 11 = .ok (.iload_n 1, 1) := by decide +kernel
theorem dJ9_floorDiv_7cf53_12 : decode cJ9_floorDiv_7cf53 12 = .ok (.imul, 1) := by decide +kernel
theorem dJ9_floorDiv_7cf53_13 : decode cJ9_floorDiv_7cf53 13 = .ok (.iload_n 0, 1) := by decide +kernel
theorem dJ9_floorDiv_7cf53_14 : decode cJ9_floorDiv_7cf53 14 = .ok (.if_icmp .eq 7, 3) := by decide +kernel
theorem dJ9_floorDiv_7cf53_17 : decode cJ9_floorDiv_7cf53 17 = .ok (.iload_n 2, 1) := by decide +kernel
theorem dJ9_floorDiv_7cf53_18 : decode cJ9_floorDiv_7cf53 18 = .ok (.iconst 1, 1) := by decide +kernel
theorem dJ9_floorDiv_7cf53_19 : decode cJ9_floorDiv_7cf53 19 = .ok (.isub, 1) := by decide +kernel
theorem dJ9_floorDiv_7cf53_20 : decode cJ9_floorDiv_7cf53 20 = .ok (.ireturn, 1) := by decide +kernel
theorem dJ9_floorDiv_7cf53_21 : decode cJ9_floorDiv_7cf53 21 = .ok (.iload_n 2, 1) := by decide +kernel
theorem dJ9_floorDiv_7cf53_22 : decode cJ9_floorDiv_7cf53 22 = .ok (.ireturn, 1) := by decide +kernel
theorem dJ9_min_7cf53_0 : decode cJ9_min_7cf53 0 = .ok (.iload_n 0, 1) := by decide +kernel
theorem dJ9_min_7cf53_1 : decode cJ9_min_7cf53 1 = .ok (.iload_n 1, 1) := by decide +kernel
theorem dJ9_min_7cf53_2 : decode cJ9_min_7cf53 2 = .ok (.if_icmp .gt 7, 3) := by decide +kernel
theorem dJ9_min_7cf53_5 : decode cJ9_min_7cf53 5 = .ok (.iload_n 0, 1) := by decide +kernel
theorem dJ9_min_7cf53_6 : decode cJ9_min_7cf53 6 = .ok (.goto 4, 3) := by decide +kernel
theorem dJ9_min_7cf53_9 : decode cJ9_min_7cf53 9 = .ok (.iload_n 1, 1) := by decide +kernel
theorem dJ9_min_7cf53_10 : decode cJ9_min_7cf53 10 = .ok (.ireturn, 1) := by decide +kernel
theorem dL_cell_0 : decode cL_cell 0 = .ok (.iload_n 1, 1) := by decide +kernel
theorem dL_cell_1 : decode cL_cell 1 = .ok (.aload_n 0, 1) := by decide +kernel
theorem dL_cell_2 : decode cL_cell 2 = .ok (.arraylength, 1) := by decide +kernel
theorem dL_cell_3 : decode cL_cell 3 = .ok (.if_icmp .ge 9, 3) := by decide +kernel
theorem dL_cell_6 : decode cL_cell 6 = .ok (.aload_n 0, 1) := by decide +kernel
theorem dL_cell_7 : decode cL_cell 7 = .ok (.iload_n 1, 1) := by decide +kernel
theorem dL_cell_8 : decode cL_cell 8 = .ok (.iaload, 1) := by decide +kernel
theorem dL_cell_9 : decode cL_cell 9 = .ok (.goto 15, 3) := by decide +kernel
theorem dL_cell_12 : decode cL_cell 12 = .ok (.sipush 7919, 3) := by decide +kernel
theorem dL_cell_15 : decode cL_cell 15 = .ok (.iload_n 1, 1) := by decide +kernel
theorem dL_cell_16 : decode cL_cell 16 = .ok (.iconst 3, 1) := by decide +kernel
theorem dL_cell_17 : decode cL_cell 17 = .ok (.iadd, 1) := by decide +kernel
theorem dL_cell_18 : decode cL_cell 18 = .ok (.imul, 1) := by decide +kernel
theorem dL_cell_19 : decode cL_cell 19 = .ok (.iload_n 1, 1) := by decide +kernel
theorem dL_cell_20 : decode cL_cell 20 = .ok (.bipush 11, 2) := by decide +kernel
theorem dL_cell_22 : decode cL_cell 22 = .ok (.iadd, 1) := by decide +kernel
theorem dL_cell_23 : decode cL_cell 23 = .ok (.imul, 1) := by decide +kernel
theorem dL_cell_24 : decode cL_cell 24 = .ok (.ireturn, 1) := by decide +kernel
theorem dL_low_0 : decode cL_low 0 = .ok (.iload_n 0, 1) := by decide +kernel
theorem dL_low_1 : decode cL_low 1 = .ok (.ldc 7, 2) := by decide +kernel
theorem dL_low_3 : decode cL_low 3 = .ok (.iand, 1) := by decide +kernel
theorem dL_low_4 : decode cL_low 4 = .ok (.iload_n 1, 1) := by decide +kernel
theorem dL_low_5 : decode cL_low 5 = .ok (.irem, 1) := by decide +kernel
theorem dL_low_6 : decode cL_low 6 = .ok (.ireturn, 1) := by decide +kernel
theorem dL_tale_0 : decode cL_tale 0 = .ok (.ldc2_w 8, 3) := by decide +kernel
theorem dL_tale_3 : decode cL_tale 3 = .ok (.lstore_n 1, 1) := by decide +kernel
theorem dL_tale_4 : decode cL_tale 4 = .ok (.iconst 0, 1) := by decide +kernel
theorem dL_tale_5 : decode cL_tale 5 = .ok (.istore_n 3, 1) := by decide +kernel
theorem dL_tale_6 : decode cL_tale 6 = .ok (.iload_n 3, 1) := by decide +kernel
theorem dL_tale_7 : decode cL_tale 7 = .ok (.bipush 12, 2) := by decide +kernel
theorem dL_tale_9 : decode cL_tale 9 = .ok (.if_icmp .ge 22, 3) := by decide +kernel
theorem dL_tale_12 : decode cL_tale 12 = .ok (.lload_n 1, 1) := by decide +kernel
theorem dL_tale_13 : decode cL_tale 13 = .ok (.ldc2_w 10, 3) := by decide +kernel
theorem dL_tale_16 : decode cL_tale 16 = .ok (.lmul, 1) := by decide +kernel
theorem dL_tale_17 : decode cL_tale 17 = .ok (.aload_n 0, 1) := by decide +kernel
theorem dL_tale_18 : decode cL_tale 18 = .ok (.iload_n 3, 1) := by decide +kernel
theorem dL_tale_19 : decode cL_tale 19 = .ok (.invokevirtual 12, 3) := by decide +kernel
theorem dL_tale_22 : decode cL_tale 22 = .ok (.i2l, 1) := by decide +kernel
theorem dL_tale_23 : decode cL_tale 23 = .ok (.ladd, 1) := by decide +kernel
theorem dL_tale_24 : decode cL_tale 24 = .ok (.lstore_n 1, 1) := by decide +kernel
theorem dL_tale_25 : decode cL_tale 25 = .ok (.iinc 3 1, 3) := by decide +kernel
theorem dL_tale_28 : decode cL_tale 28 = .ok (.goto (-22), 3) := by decide +kernel
theorem dL_tale_31 : decode cL_tale 31 = .ok (.iconst 0, 1) := by decide +kernel
theorem dL_tale_32 : decode cL_tale 32 = .ok (.istore_n 3, 1) := by decide +kernel
theorem dL_tale_33 : decode cL_tale 33 = .ok (.iload_n 3, 1) := by decide +kernel
theorem dL_tale_34 : decode cL_tale 34 = .ok (.aload_n 0, 1) := by decide +kernel
theorem dL_tale_35 : decode cL_tale 35 = .ok (.bipush 7, 2) := by decide +kernel
theorem dL_tale_37 : decode cL_tale 37 = .ok (.invokevirtual 12, 3) := by decide +kernel
theorem dL_tale_40 : decode cL_tale 40 = .ok (.if_icmp .ge 105, 3) := by decide +kernel
theorem dL_tale_43 : decode cL_tale 43 = .ok (.iconst 0, 1) := by decide +kernel
theorem dL_tale_44 : decode cL_tale 44 = .ok (.istore 4, 2) := by decide +kernel
theorem dL_tale_46 : decode cL_tale 46 = .ok (.iload 4, 2) := by decide +kernel
theorem dL_tale_48 : decode cL_tale 48 = .ok (.bipush 14, 2) := by decide +kernel
theorem dL_tale_50 : decode cL_tale 50 = .ok (.if_icmp .ge 24, 3) := by decide +kernel
theorem dL_tale_53 : decode cL_tale 53 = .ok (.lload_n 1, 1) := by decide +kernel
theorem dL_tale_54 : decode cL_tale 54 = .ok (.ldc2_w 18, 3) := by decide +kernel
theorem dL_tale_57 : decode cL_tale 57 = .ok (.lmul, 1) := by decide +kernel
theorem dL_tale_58 : decode cL_tale 58 = .ok (.aload_n 0, 1) := by decide +kernel
theorem dL_tale_59 : decode cL_tale 59 = .ok (.iload_n 3, 1) := by decide +kernel
theorem dL_tale_60 : decode cL_tale 60 = .ok (.iload 4, 2) := by decide +kernel
theorem dL_tale_62 : decode cL_tale 62 = .ok (.invokevirtual 20, 3) := by decide +kernel
theorem dL_tale_65 : decode cL_tale 65 = .ok (.i2l, 1) := by decide +kernel
theorem dL_tale_66 : decode cL_tale 66 = .ok (.ladd, 1) := by decide +kernel
theorem dL_tale_67 : decode cL_tale 67 = .ok (.lstore_n 1, 1) := by decide +kernel
theorem dL_tale_68 : decode cL_tale 68 = .ok (.iinc 4 1, 3) := by decide +kernel
theorem dL_tale_71 : decode cL_tale 71 = .ok (.goto (-25), 3) := by decide +kernel
theorem dL_tale_74 : decode cL_tale 74 = .ok (.iconst 0, 1) := by decide +kernel
theorem dL_tale_75 : decode cL_tale 75 = .ok (.istore 4, 2) := by decide +kernel
theorem dL_tale_77 : decode cL_tale 77 = .ok (.iload 4, 2) := by decide +kernel
theorem dL_tale_79 : decode cL_tale 79 = .ok (.iconst 5, 1) := by decide +kernel
theorem dL_tale_80 : decode cL_tale 80 = .ok (.if_icmp .ge 24, 3) := by decide +kernel
theorem dL_tale_83 : decode cL_tale 83 = .ok (.lload_n 1, 1) := by decide +kernel
theorem dL_tale_84 : decode cL_tale 84 = .ok (.ldc2_w 24, 3) := by decide +kernel
theorem dL_tale_87 : decode cL_tale 87 = .ok (.lmul, 1) := by decide +kernel
theorem dL_tale_88 : decode cL_tale 88 = .ok (.aload_n 0, 1) := by decide +kernel
theorem dL_tale_89 : decode cL_tale 89 = .ok (.iload_n 3, 1) := by decide +kernel
theorem dL_tale_90 : decode cL_tale 90 = .ok (.iload 4, 2) := by decide +kernel
theorem dL_tale_92 : decode cL_tale 92 = .ok (.invokevirtual 26, 3) := by decide +kernel
theorem dL_tale_95 : decode cL_tale 95 = .ok (.i2l, 1) := by decide +kernel
theorem dL_tale_96 : decode cL_tale 96 = .ok (.ladd, 1) := by decide +kernel
theorem dL_tale_97 : decode cL_tale 97 = .ok (.lstore_n 1, 1) := by decide +kernel
theorem dL_tale_98 : decode cL_tale 98 = .ok (.iinc 4 1, 3) := by decide +kernel
theorem dL_tale_101 : decode cL_tale 101 = .ok (.goto (-24), 3) := by decide +kernel
theorem dL_tale_104 : decode cL_tale 104 = .ok (.iconst 0, 1) := by decide +kernel
theorem dL_tale_105 : decode cL_tale 105 = .ok (.istore 4, 2) := by decide +kernel
theorem dL_tale_107 : decode cL_tale 107 = .ok (.iload 4, 2) := by decide +kernel
theorem dL_tale_109 : decode cL_tale 109 = .ok (.aload_n 0, 1) := by decide +kernel
theorem dL_tale_110 : decode cL_tale 110 = .ok (.bipush 7, 2) := by decide +kernel
theorem dL_tale_112 : decode cL_tale 112 = .ok (.invokevirtual 12, 3) := by decide +kernel
theorem dL_tale_115 : decode cL_tale 115 = .ok (.if_icmp .ge 24, 3) := by decide +kernel
theorem dL_tale_118 : decode cL_tale 118 = .ok (.lload_n 1, 1) := by decide +kernel
theorem dL_tale_119 : decode cL_tale 119 = .ok (.ldc2_w 29, 3) := by decide +kernel
theorem dL_tale_122 : decode cL_tale 122 = .ok (.lmul, 1) := by decide +kernel
theorem dL_tale_123 : decode cL_tale 123 = .ok (.aload_n 0, 1) := by decide +kernel
theorem dL_tale_124 : decode cL_tale 124 = .ok (.iload_n 3, 1) := by decide +kernel
theorem dL_tale_125 : decode cL_tale 125 = .ok (.iload 4, 2) := by decide +kernel
theorem dL_tale_127 : decode cL_tale 127 = .ok (.invokevirtual 31, 3) := by decide +kernel
theorem dL_tale_130 : decode cL_tale 130 = .ok (.i2l, 1) := by decide +kernel
theorem dL_tale_131 : decode cL_tale 131 = .ok (.ladd, 1) := by decide +kernel
theorem dL_tale_132 : decode cL_tale 132 = .ok (.lstore_n 1, 1) := by decide +kernel
theorem dL_tale_133 : decode cL_tale 133 = .ok (.iinc 4 1, 3) := by decide +kernel
theorem dL_tale_136 : decode cL_tale 136 = .ok (.goto (-29), 3) := by decide +kernel
theorem dL_tale_139 : decode cL_tale 139 = .ok (.iinc 3 1, 3) := by decide +kernel
theorem dL_tale_142 : decode cL_tale 142 = .ok (.goto (-109), 3) := by decide +kernel
theorem dL_tale_145 : decode cL_tale 145 = .ok (.lload_n 1, 1) := by decide +kernel
theorem dL_tale_146 : decode cL_tale 146 = .ok (.lreturn, 1) := by decide +kernel
theorem dL_does_0 : decode cL_does 0 = .ok (.iload_n 1, 1) := by decide +kernel
theorem dL_does_1 : decode cL_does 1 = .ok (.iconst 4, 1) := by decide +kernel
theorem dL_does_2 : decode cL_does 2 = .ok (.ishr, 1) := by decide +kernel
theorem dL_does_3 : decode cL_does 3 = .ok (.iconst 4, 1) := by decide +kernel
theorem dL_does_4 : decode cL_does 4 = .ok (.invokestatic 34, 3) := by decide +kernel
theorem dL_does_7 : decode cL_does 7 = .ok (.istore_n 2, 1) := by decide +kernel
theorem dL_does_8 : decode cL_does 8 = .ok (.iload_n 1, 1) := by decide +kernel
theorem dL_does_9 : decode cL_does 9 = .ok (.bipush 15, 2) := by decide +kernel
theorem dL_does_11 : decode cL_does 11 = .ok (.iand, 1) := by decide +kernel
theorem dL_does_12 : decode cL_does 12 = .ok (.tableswitch 214 0 8 #[52, 52, 102, 102, 125, 160, 183, 202, 208], 52) := by decide +kernel
theorem dL_does_64 : decode cL_does 64 = .ok (.aload_n 0, 1) := by decide +kernel
theorem dL_does_65 : decode cL_does 65 = .ok (.bipush 9, 2) := by decide +kernel
theorem dL_does_67 : decode cL_does 67 = .ok (.iload_n 1, 1) := by decide +kernel
theorem dL_does_68 : decode cL_does 68 = .ok (.bipush 6, 2) := by decide +kernel
theorem dL_does_70 : decode cL_does 70 = .ok (.ishr, 1) := by decide +kernel
theorem dL_does_71 : decode cL_does 71 = .ok (.sipush 150, 3) := by decide +kernel
theorem dL_does_74 : decode cL_does 74 = .ok (.invokestatic 34, 3) := by decide +kernel
theorem dL_does_77 : decode cL_does 77 = .ok (.iadd, 1) := by decide +kernel
theorem dL_does_78 : decode cL_does 78 = .ok (.iconst 1, 1) := by decide +kernel
theorem dL_does_79 : decode cL_does 79 = .ok (.iload_n 1, 1) := by decide +kernel
theorem dL_does_80 : decode cL_does 80 = .ok (.bipush 14, 2) := by decide +kernel
theorem dL_does_82 : decode cL_does 82 = .ok (.ishr, 1) := by decide +kernel
theorem dL_does_83 : decode cL_does 83 = .ok (.sipush 200, 3) := by decide +kernel
theorem dL_does_86 : decode cL_does 86 = .ok (.invokestatic 34, 3) := by decide +kernel
theorem dL_does_89 : decode cL_does 89 = .ok (.iadd, 1) := by decide +kernel
theorem dL_does_90 : decode cL_does 90 = .ok (.iload_n 1, 1) := by decide +kernel
theorem dL_does_91 : decode cL_does 91 = .ok (.bipush 22, 2) := by decide +kernel
theorem dL_does_93 : decode cL_does 93 = .ok (.ishr, 1) := by decide +kernel
theorem dL_does_94 : decode cL_does 94 = .ok (.bipush 12, 2) := by decide +kernel
theorem dL_does_96 : decode cL_does 96 = .ok (.invokestatic 34, 3) := by decide +kernel
theorem dL_does_99 : decode cL_does 99 = .ok (.iload_n 1, 1) := by decide +kernel
theorem dL_does_100 : decode cL_does 100 = .ok (.bipush 26, 2) := by decide +kernel
theorem dL_does_102 : decode cL_does 102 = .ok (.ishr, 1) := by decide +kernel
theorem dL_does_103 : decode cL_does 103 = .ok (.bipush 30, 2) := by decide +kernel
theorem dL_does_105 : decode cL_does 105 = .ok (.invokestatic 34, 3) := by decide +kernel
theorem dL_does_108 : decode cL_does 108 = .ok (.iconst 5, 1) := by decide +kernel
theorem dL_does_109 : decode cL_does 109 = .ok (.isub, 1) := by decide +kernel
theorem dL_does_110 : decode cL_does 110 = .ok (.invokevirtual 39, 3) := by decide +kernel
theorem dL_does_113 : decode cL_does 113 = .ok (.ireturn, 1) := by decide +kernel
theorem dL_does_114 : decode cL_does 114 = .ok (.aload_n 0, 1) := by decide +kernel
theorem dL_does_115 : decode cL_does 115 = .ok (.iload_n 2, 1) := by decide +kernel
theorem dL_does_116 : decode cL_does 116 = .ok (.iload_n 1, 1) := by decide +kernel
theorem dL_does_117 : decode cL_does 117 = .ok (.bipush 6, 2) := by decide +kernel
theorem dL_does_119 : decode cL_does 119 = .ok (.ishr, 1) := by decide +kernel
theorem dL_does_120 : decode cL_does 120 = .ok (.iconst 4, 1) := by decide +kernel
theorem dL_does_121 : decode cL_does 121 = .ok (.invokestatic 34, 3) := by decide +kernel
theorem dL_does_124 : decode cL_does 124 = .ok (.iload_n 1, 1) := by decide +kernel
theorem dL_does_125 : decode cL_does 125 = .ok (.bipush 8, 2) := by decide +kernel
theorem dL_does_127 : decode cL_does 127 = .ok (.ishr, 1) := by decide +kernel
theorem dL_does_128 : decode cL_does 128 = .ok (.bipush 30, 2) := by decide +kernel
theorem dL_does_130 : decode cL_does 130 = .ok (.invokestatic 34, 3) := by decide +kernel
theorem dL_does_133 : decode cL_does 133 = .ok (.invokevirtual 43, 3) := by decide +kernel
theorem dL_does_136 : decode cL_does 136 = .ok (.ireturn, 1) := by decide +kernel
theorem dL_does_137 : decode cL_does 137 = .ok (.aload_n 0, 1) := by decide +kernel
theorem dL_does_138 : decode cL_does 138 = .ok (.iload_n 2, 1) := by decide +kernel
theorem dL_does_139 : decode cL_does 139 = .ok (.sipush 5000, 3) := by decide +kernel
theorem dL_does_142 : decode cL_does 142 = .ok (.sipush 1000, 3) := by decide +kernel
theorem dL_does_145 : decode cL_does 145 = .ok (.iload_n 1, 1) := by decide +kernel
theorem dL_does_146 : decode cL_does 146 = .ok (.bipush 6, 2) := by decide +kernel
theorem dL_does_148 : decode cL_does 148 = .ok (.ishr, 1) := by decide +kernel
theorem dL_does_149 : decode cL_does 149 = .ok (.bipush 31, 2) := by decide +kernel
theorem dL_does_151 : decode cL_does 151 = .ok (.invokestatic 34, 3) := by decide +kernel
theorem dL_does_154 : decode cL_does 154 = .ok (.imul, 1) := by decide +kernel
theorem dL_does_155 : decode cL_does 155 = .ok (.iadd, 1) := by decide +kernel
theorem dL_does_156 : decode cL_does 156 = .ok (.bipush 100, 2) := by decide +kernel
theorem dL_does_158 : decode cL_does 158 = .ok (.iload_n 1, 1) := by decide +kernel
theorem dL_does_159 : decode cL_does 159 = .ok (.bipush 11, 2) := by decide +kernel
theorem dL_does_161 : decode cL_does 161 = .ok (.ishr, 1) := by decide +kernel
theorem dL_does_162 : decode cL_does 162 = .ok (.bipush 20, 2) := by decide +kernel
theorem dL_does_164 : decode cL_does 164 = .ok (.invokestatic 34, 3) := by decide +kernel
theorem dL_does_167 : decode cL_does 167 = .ok (.imul, 1) := by decide +kernel
theorem dL_does_168 : decode cL_does 168 = .ok (.invokevirtual 47, 3) := by decide +kernel
theorem dL_does_171 : decode cL_does 171 = .ok (.ireturn, 1) := by decide +kernel
theorem dL_does_172 : decode cL_does 172 = .ok (.aload_n 0, 1) := by decide +kernel
theorem dL_does_173 : decode cL_does 173 = .ok (.iload_n 1, 1) := by decide +kernel
