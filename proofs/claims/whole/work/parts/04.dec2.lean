theorem dX4_add_11 : decode cX4_add 11 = .ok (.bipush 12, 2) := by decide +kernel
theorem dX4_add_13 : decode cX4_add 13 = .ok (.if_icmp .ge 33, 3) := by decide +kernel
theorem dX4_add_16 : decode cX4_add 16 = .ok (.aload_n 0, 1) := by decide +kernel
theorem dX4_add_17 : decode cX4_add 17 = .ok (.getfield 9, 3) := by decide +kernel
theorem dX4_add_20 : decode cX4_add 20 = .ok (.aload_n 0, 1) := by decide +kernel
theorem dX4_add_21 : decode cX4_add 21 = .ok (.getfield 24, 3) := by decide +kernel
theorem dX4_add_24 : decode cX4_add 24 = .ok (.iload_n 1, 1) := by decide +kernel
theorem dX4_add_25 : decode cX4_add 25 = .ok (.iastore, 1) := by decide +kernel
theorem dX4_add_26 : decode cX4_add 26 = .ok (.aload_n 0, 1) := by decide +kernel
theorem dX4_add_27 : decode cX4_add 27 = .ok (.getfield 15, 3) := by decide +kernel
theorem dX4_add_30 : decode cX4_add 30 = .ok (.aload_n 0, 1) := by decide +kernel
theorem dX4_add_31 : decode cX4_add 31 = .ok (.getfield 24, 3) := by decide +kernel
theorem dX4_add_34 : decode cX4_add 34 = .ok (.iload_n 2, 1) := by decide +kernel
theorem dX4_add_35 : decode cX4_add 35 = .ok (.iastore, 1) := by decide +kernel
theorem dX4_add_36 : decode cX4_add 36 = .ok (.aload_n 0, 1) := by decide +kernel
theorem dX4_add_37 : decode cX4_add 37 = .ok (.dup, 1) := by decide +kernel
theorem dX4_add_38 : decode cX4_add 38 = .ok (.getfield 24, 3) := by decide +kernel
theorem dX4_add_41 : decode cX4_add 41 = .ok (.iconst 1, 1) := by decide +kernel
theorem dX4_add_42 : decode cX4_add 42 = .ok (.iadd, 1) := by decide +kernel
theorem dX4_add_43 : decode cX4_add 43 = .ok (.putfield 24, 3) := by decide +kernel
theorem dX4_add_46 : decode cX4_add 46 = .ok (.return_, 1) := by decide +kernel
theorem dX4_temperatureAt_0 : decode cX4_temperatureAt 0 = .ok (.iconst 0, 1) := by decide +kernel
theorem dX4_temperatureAt_1 : decode cX4_temperatureAt 1 = .ok (.istore_n 2, 1) := by decide +kernel
theorem dX4_temperatureAt_2 : decode cX4_temperatureAt 2 = .ok (.iconst 0, 1) := by decide +kernel
theorem dX4_temperatureAt_3 : decode cX4_temperatureAt 3 = .ok (.istore_n 3, 1) := by decide +kernel
theorem dX4_temperatureAt_4 : decode cX4_temperatureAt 4 = .ok (.iload_n 3, 1) := by decide +kernel
theorem dX4_temperatureAt_5 : decode cX4_temperatureAt 5 = .ok (.aload_n 0, 1) := by decide +kernel
theorem dX4_temperatureAt_6 : decode cX4_temperatureAt 6 = .ok (.getfield 24, 3) := by decide +kernel
theorem dX4_temperatureAt_9 : decode cX4_temperatureAt 9 = .ok (.if_icmp .ge 60, 3) := by decide +kernel
theorem dX4_temperatureAt_12 : decode cX4_temperatureAt 12 = .ok (.iload_n 3, 1) := by decide +kernel
theorem dX4_temperatureAt_13 : decode cX4_temperatureAt 13 = .ok (.bipush 12, 2) := by decide +kernel
theorem dX4_temperatureAt_15 : decode cX4_temperatureAt 15 = .ok (.if_icmp .ge 54, 3) := by decide +kernel
theorem dX4_temperatureAt_18 : decode cX4_temperatureAt 18 = .ok (.iload_n 1, 1) := by decide +kernel
theorem dX4_temperatureAt_19 : decode cX4_temperatureAt 19 = .ok (.aload_n 0, 1) := by decide +kernel
theorem dX4_temperatureAt_20 : decode cX4_temperatureAt 20 = .ok (.getfield 9, 3) := by decide +kernel
theorem dX4_temperatureAt_23 : decode cX4_temperatureAt 23 = .ok (.iload_n 3, 1) := by decide +kernel
theorem dX4_temperatureAt_24 : decode cX4_temperatureAt 24 = .ok (.iaload, 1) := by decide +kernel
theorem dX4_temperatureAt_25 : decode cX4_temperatureAt 25 = .ok (.if_icmp .ge 27, 3) := by decide +kernel
theorem dX4_temperatureAt_28 : decode cX4_temperatureAt 28 = .ok (.iload_n 3, 1) := by decide +kernel
theorem dX4_temperatureAt_29 : decode cX4_temperatureAt 29 = .ok (.ifCond .ne 16, 3) := by decide +kernel
theorem dX4_temperatureAt_32 : decode cX4_temperatureAt 32 = .ok (.sipush 1000, 3) := by decide +kernel
theorem dX4_temperatureAt_35 : decode cX4_temperatureAt 35 = .ok (.aload_n 0, 1) := by decide +kernel
theorem dX4_temperatureAt_36 : decode cX4_temperatureAt 36 = .ok (.getfield 15, 3) := by decide +kernel
theorem dX4_temperatureAt_39 : decode cX4_temperatureAt 39 = .ok (.iconst 0, 1) := by decide +kernel
theorem dX4_temperatureAt_40 : decode cX4_temperatureAt 40 = .ok (.iaload, 1) := by decide +kernel
theorem dX4_temperatureAt_41 : decode cX4_temperatureAt 41 = .ok (.imul, 1) := by decide +kernel
theorem dX4_temperatureAt_42 : decode cX4_temperatureAt 42 = .ok (.goto 9, 3) := by decide +kernel
theorem dX4_temperatureAt_45 : decode cX4_temperatureAt 45 = .ok (.aload_n 0, 1) := by decide +kernel
theorem dX4_temperatureAt_46 : decode cX4_temperatureAt 46 = .ok (.iload_n 3, 1) := by decide +kernel
theorem dX4_temperatureAt_47 : decode cX4_temperatureAt 47 = .ok (.iload_n 1, 1) := by decide +kernel
theorem dX4_temperatureAt_48 : decode cX4_temperatureAt 48 = .ok (.invokevirtual 28, 3) := by decide +kernel
theorem dX4_temperatureAt_51 : decode cX4_temperatureAt 51 = .ok (.ireturn, 1) := by decide +kernel
theorem dX4_temperatureAt_52 : decode cX4_temperatureAt 52 = .ok (.sipush 1000, 3) := by decide +kernel
theorem dX4_temperatureAt_55 : decode cX4_temperatureAt 55 = .ok (.aload_n 0, 1) := by decide +kernel
theorem dX4_temperatureAt_56 : decode cX4_temperatureAt 56 = .ok (.getfield 15, 3) := by decide +kernel
theorem dX4_temperatureAt_59 : decode cX4_temperatureAt 59 = .ok (.iload_n 3, 1) := by decide +kernel
theorem dX4_temperatureAt_60 : decode cX4_temperatureAt 60 = .ok (.iaload, 1) := by decide +kernel
theorem dX4_temperatureAt_61 : decode cX4_temperatureAt 61 = .ok (.imul, 1) := by decide +kernel
theorem dX4_temperatureAt_62 : decode cX4_temperatureAt 62 = .ok (.istore_n 2, 1) := by decide +kernel
theorem dX4_temperatureAt_63 : decode cX4_temperatureAt 63 = .ok (.iinc 3 1, 3) := by decide +kernel
theorem dX4_temperatureAt_66 : decode cX4_temperatureAt 66 = .ok (.goto (-62), 3) := by decide +kernel
theorem dX4_temperatureAt_69 : decode cX4_temperatureAt 69 = .ok (.iload_n 2, 1) := by decide +kernel
theorem dX4_temperatureAt_70 : decode cX4_temperatureAt 70 = .ok (.ireturn, 1) := by decide +kernel
theorem dX4_temperatureBefore_0 : decode cX4_temperatureBefore 0 = .ok (.iload_n 1, 1) := by decide +kernel
theorem dX4_temperatureBefore_1 : decode cX4_temperatureBefore 1 = .ok (.iconst 1, 1) := by decide +kernel
theorem dX4_temperatureBefore_2 : decode cX4_temperatureBefore 2 = .ok (.if_icmp .lt 9, 3) := by decide +kernel
theorem dX4_temperatureBefore_5 : decode cX4_temperatureBefore 5 = .ok (.iload_n 1, 1) := by decide +kernel
theorem dX4_temperatureBefore_6 : decode cX4_temperatureBefore 6 = .ok (.bipush 12, 2) := by decide +kernel
theorem dX4_temperatureBefore_8 : decode cX4_temperatureBefore 8 = .ok (.if_icmp .lt 5, 3) := by decide +kernel
theorem dX4_temperatureBefore_11 : decode cX4_temperatureBefore 11 = .ok (.iconst 0, 1) := by decide +kernel
theorem dX4_temperatureBefore_12 : decode cX4_temperatureBefore 12 = .ok (.ireturn, 1) := by decide +kernel
theorem dX4_temperatureBefore_13 : decode cX4_temperatureBefore 13 = .ok (.aload_n 0, 1) := by decide +kernel
theorem dX4_temperatureBefore_14 : decode cX4_temperatureBefore 14 = .ok (.getfield 15, 3) := by decide +kernel
theorem dX4_temperatureBefore_17 : decode cX4_temperatureBefore 17 = .ok (.iload_n 1, 1) := by decide +kernel
theorem dX4_temperatureBefore_18 : decode cX4_temperatureBefore 18 = .ok (.iconst 1, 1) := by decide +kernel
theorem dX4_temperatureBefore_19 : decode cX4_temperatureBefore 19 = .ok (.isub, 1) := by decide +kernel
theorem dX4_temperatureBefore_20 : decode cX4_temperatureBefore 20 = .ok (.iaload, 1) := by decide +kernel
theorem dX4_temperatureBefore_21 : decode cX4_temperatureBefore 21 = .ok (.istore_n 3, 1) := by decide +kernel
theorem dX4_temperatureBefore_22 : decode cX4_temperatureBefore 22 = .ok (.aload_n 0, 1) := by decide +kernel
theorem dX4_temperatureBefore_23 : decode cX4_temperatureBefore 23 = .ok (.getfield 9, 3) := by decide +kernel
theorem dX4_temperatureBefore_26 : decode cX4_temperatureBefore 26 = .ok (.iload_n 1, 1) := by decide +kernel
theorem dX4_temperatureBefore_27 : decode cX4_temperatureBefore 27 = .ok (.iaload, 1) := by decide +kernel
theorem dX4_temperatureBefore_28 : decode cX4_temperatureBefore 28 = .ok (.aload_n 0, 1) := by decide +kernel
theorem dX4_temperatureBefore_29 : decode cX4_temperatureBefore 29 = .ok (.getfield 9, 3) := by decide +kernel
theorem dX4_temperatureBefore_32 : decode cX4_temperatureBefore 32 = .ok (.iload_n 1, 1) := by decide +kernel
theorem dX4_temperatureBefore_33 : decode cX4_temperatureBefore 33 = .ok (.iconst 1, 1) := by decide +kernel
theorem dX4_temperatureBefore_34 : decode cX4_temperatureBefore 34 = .ok (.isub, 1) := by decide +kernel
theorem dX4_temperatureBefore_35 : decode cX4_temperatureBefore 35 = .ok (.iaload, 1) := by decide +kernel
theorem dX4_temperatureBefore_36 : decode cX4_temperatureBefore 36 = .ok (.isub, 1) := by decide +kernel
theorem dX4_temperatureBefore_37 : decode cX4_temperatureBefore 37 = .ok (.istore 4, 2) := by decide +kernel
theorem dX4_temperatureBefore_39 : decode cX4_temperatureBefore 39 = .ok (.iload_n 2, 1) := by decide +kernel
theorem dX4_temperatureBefore_40 : decode cX4_temperatureBefore 40 = .ok (.aload_n 0, 1) := by decide +kernel
theorem dX4_temperatureBefore_41 : decode cX4_temperatureBefore 41 = .ok (.getfield 9, 3) := by decide +kernel
theorem dX4_temperatureBefore_44 : decode cX4_temperatureBefore 44 = .ok (.iload_n 1, 1) := by decide +kernel
theorem dX4_temperatureBefore_45 : decode cX4_temperatureBefore 45 = .ok (.iconst 1, 1) := by decide +kernel
theorem dX4_temperatureBefore_46 : decode cX4_temperatureBefore 46 = .ok (.isub, 1) := by decide +kernel
theorem dX4_temperatureBefore_47 : decode cX4_temperatureBefore 47 = .ok (.iaload, 1) := by decide +kernel
theorem dX4_temperatureBefore_48 : decode cX4_temperatureBefore 48 = .ok (.isub, 1) := by decide +kernel
theorem dX4_temperatureBefore_49 : decode cX4_temperatureBefore 49 = .ok (.istore 5, 2) := by decide +kernel
theorem dX4_temperatureBefore_51 : decode cX4_temperatureBefore 51 = .ok (.iload 4, 2) := by decide +kernel
theorem dX4_temperatureBefore_53 : decode cX4_temperatureBefore 53 = .ok (.ifCond .ne 11, 3) := by decide +kernel
theorem dX4_temperatureBefore_56 : decode cX4_temperatureBefore 56 = .ok (.sipush 1000, 3) := by decide +kernel
theorem dX4_temperatureBefore_59 : decode cX4_temperatureBefore 59 = .ok (.iload_n 3, 1) := by decide +kernel
theorem dX4_temperatureBefore_60 : decode cX4_temperatureBefore 60 = .ok (.imul, 1) := by decide +kernel
theorem dX4_temperatureBefore_61 : decode cX4_temperatureBefore 61 = .ok (.goto 27, 3) := by decide +kernel
theorem dX4_temperatureBefore_64 : decode cX4_temperatureBefore 64 = .ok (.sipush 1000, 3) := by decide +kernel
theorem dX4_temperatureBefore_67 : decode cX4_temperatureBefore 67 = .ok (.iload_n 3, 1) := by decide +kernel
theorem dX4_temperatureBefore_68 : decode cX4_temperatureBefore 68 = .ok (.imul, 1) := by decide +kernel
theorem dX4_temperatureBefore_69 : decode cX4_temperatureBefore 69 = .ok (.sipush 1000, 3) := by decide +kernel
theorem dX4_temperatureBefore_72 : decode cX4_temperatureBefore 72 = .ok (.aload_n 0, 1) := by decide +kernel
theorem dX4_temperatureBefore_73 : decode cX4_temperatureBefore 73 = .ok (.getfield 15, 3) := by decide +kernel
theorem dX4_temperatureBefore_76 : decode cX4_temperatureBefore 76 = .ok (.iload_n 1, 1) := by decide +kernel
theorem dX4_temperatureBefore_77 : decode cX4_temperatureBefore 77 = .ok (.iaload, 1) := by decide +kernel
theorem dX4_temperatureBefore_78 : decode cX4_temperatureBefore 78 = .ok (.iload_n 3, 1) := by decide +kernel
theorem dX4_temperatureBefore_79 : decode cX4_temperatureBefore 79 = .ok (.isub, 1) := by decide +kernel
theorem dX4_temperatureBefore_80 : decode cX4_temperatureBefore 80 = .ok (.imul, 1) := by decide +kernel
theorem dX4_temperatureBefore_81 : decode cX4_temperatureBefore 81 = .ok (.iload 5, 2) := by decide +kernel
theorem dX4_temperatureBefore_83 : decode cX4_temperatureBefore 83 = .ok (.imul, 1) := by decide +kernel
theorem dX4_temperatureBefore_84 : decode cX4_temperatureBefore 84 = .ok (.iload 4, 2) := by decide +kernel
theorem dX4_temperatureBefore_86 : decode cX4_temperatureBefore 86 = .ok (.idiv, 1) := by decide +kernel
theorem dX4_temperatureBefore_87 : decode cX4_temperatureBefore 87 = .ok (.iadd, 1) := by decide +kernel
theorem dX4_temperatureBefore_88 : decode cX4_temperatureBefore 88 = .ok (.ireturn, 1) := by decide +kernel
theorem dX5_init_0 : decode cX5_init 0 = .ok (.aload_n 0, 1) := by decide +kernel
theorem dX5_init_1 : decode cX5_init 1 = .ok (.invokespecial 3, 3) := by decide +kernel
theorem dX5_init_4 : decode cX5_init 4 = .ok (.aload_n 0, 1) := by decide +kernel
theorem dX5_init_5 : decode cX5_init 5 = .ok (.bipush 100, 2) := by decide +kernel
theorem dX5_init_7 : decode cX5_init 7 = .ok (.newarray .int, 2) := by decide +kernel
theorem dX5_init_9 : decode cX5_init 9 = .ok (.putfield 9, 3) := by decide +kernel
theorem dX5_init_12 : decode cX5_init 12 = .ok (.return_, 1) := by decide +kernel
theorem dX5_append_0 : decode cX5_append 0 = .ok (.aload_n 0, 1) := by decide +kernel
theorem dX5_append_1 : decode cX5_append 1 = .ok (.getfield 15, 3) := by decide +kernel
theorem dX5_append_4 : decode cX5_append 4 = .ok (.ifCond .lt 12, 3) := by decide +kernel
theorem dX5_append_7 : decode cX5_append 7 = .ok (.aload_n 0, 1) := by decide +kernel
theorem dX5_append_8 : decode cX5_append 8 = .ok (.getfield 15, 3) := by decide +kernel
theorem dX5_append_11 : decode cX5_append 11 = .ok (.bipush 100, 2) := by decide +kernel
theorem dX5_append_13 : decode cX5_append 13 = .ok (.if_icmp .lt 5, 3) := by decide +kernel
theorem dX5_append_16 : decode cX5_append 16 = .ok (.iconst 0, 1) := by decide +kernel
theorem dX5_append_17 : decode cX5_append 17 = .ok (.ireturn, 1) := by decide +kernel
theorem dX5_append_18 : decode cX5_append 18 = .ok (.aload_n 0, 1) := by decide +kernel
theorem dX5_append_19 : decode cX5_append 19 = .ok (.getfield 9, 3) := by decide +kernel
theorem dX5_append_22 : decode cX5_append 22 = .ok (.aload_n 0, 1) := by decide +kernel
theorem dX5_append_23 : decode cX5_append 23 = .ok (.getfield 15, 3) := by decide +kernel
theorem dX5_append_26 : decode cX5_append 26 = .ok (.iload_n 1, 1) := by decide +kernel
theorem dX5_append_27 : decode cX5_append 27 = .ok (.iastore, 1) := by decide +kernel
theorem dX5_append_28 : decode cX5_append 28 = .ok (.aload_n 0, 1) := by decide +kernel
theorem dX5_append_29 : decode cX5_append 29 = .ok (.dup, 1) := by decide +kernel
theorem dX5_append_30 : decode cX5_append 30 = .ok (.getfield 15, 3) := by decide +kernel
theorem dX5_append_33 : decode cX5_append 33 = .ok (.iconst 1, 1) := by decide +kernel
theorem dX5_append_34 : decode cX5_append 34 = .ok (.iadd, 1) := by decide +kernel
theorem dX5_append_35 : decode cX5_append 35 = .ok (.putfield 15, 3) := by decide +kernel
theorem dX5_append_38 : decode cX5_append 38 = .ok (.iconst 1, 1) := by decide +kernel
theorem dX5_append_39 : decode cX5_append 39 = .ok (.ireturn, 1) := by decide +kernel
theorem dX5_readInto_0 : decode cX5_readInto 0 = .ok (.aload_n 1, 1) := by decide +kernel
theorem dX5_readInto_1 : decode cX5_readInto 1 = .ok (.iconst 0, 1) := by decide +kernel
theorem dX5_readInto_2 : decode cX5_readInto 2 = .ok (.putfield 19, 3) := by decide +kernel
theorem dX5_readInto_5 : decode cX5_readInto 5 = .ok (.aload_n 0, 1) := by decide +kernel
theorem dX5_readInto_6 : decode cX5_readInto 6 = .ok (.iconst 0, 1) := by decide +kernel
theorem dX5_readInto_7 : decode cX5_readInto 7 = .ok (.putfield 24, 3) := by decide +kernel
theorem dX5_readInto_10 : decode cX5_readInto 10 = .ok (.aload_n 0, 1) := by decide +kernel
theorem dX5_readInto_11 : decode cX5_readInto 11 = .ok (.invokevirtual 27, 3) := by decide +kernel
theorem dX5_readInto_14 : decode cX5_readInto 14 = .ok (.aload_n 0, 1) := by decide +kernel
theorem dX5_readInto_15 : decode cX5_readInto 15 = .ok (.invokevirtual 30, 3) := by decide +kernel
theorem dX5_readInto_18 : decode cX5_readInto 18 = .ok (.iconst (-1), 1) := by decide +kernel
theorem dX5_readInto_19 : decode cX5_readInto 19 = .ok (.if_icmp .ne 5, 3) := by decide +kernel
theorem dX5_readInto_22 : decode cX5_readInto 22 = .ok (.iconst (-1), 1) := by decide +kernel
theorem dX5_readInto_23 : decode cX5_readInto 23 = .ok (.ireturn, 1) := by decide +kernel
theorem dX5_readInto_24 : decode cX5_readInto 24 = .ok (.aload_n 0, 1) := by decide +kernel
theorem dX5_readInto_25 : decode cX5_readInto 25 = .ok (.aload_n 1, 1) := by decide +kernel
theorem dX5_readInto_26 : decode cX5_readInto 26 = .ok (.invokevirtual 34, 3) := by decide +kernel
theorem dX5_readInto_29 : decode cX5_readInto 29 = .ok (.istore_n 2, 1) := by decide +kernel
theorem dX5_readInto_30 : decode cX5_readInto 30 = .ok (.iload_n 2, 1) := by decide +kernel
theorem dX5_readInto_31 : decode cX5_readInto 31 = .ok (.iconst (-1), 1) := by decide +kernel
theorem dX5_readInto_32 : decode cX5_readInto 32 = .ok (.if_icmp .ne 51, 3) := by decide +kernel
theorem dX5_readInto_35 : decode cX5_readInto 35 = .ok (.aload_n 0, 1) := by decide +kernel
theorem dX5_readInto_36 : decode cX5_readInto 36 = .ok (.getfield 24, 3) := by decide +kernel
theorem dX5_readInto_39 : decode cX5_readInto 39 = .ok (.aload_n 0, 1) := by decide +kernel
theorem dX5_readInto_40 : decode cX5_readInto 40 = .ok (.getfield 15, 3) := by decide +kernel
theorem dX5_readInto_43 : decode cX5_readInto 43 = .ok (.if_icmp .ge 40, 3) := by decide +kernel
theorem dX5_readInto_46 : decode cX5_readInto 46 = .ok (.aload_n 0, 1) := by decide +kernel
theorem dX5_readInto_47 : decode cX5_readInto 47 = .ok (.invokevirtual 30, 3) := by decide +kernel
theorem dX5_readInto_50 : decode cX5_readInto 50 = .ok (.bipush 59, 2) := by decide +kernel
theorem dX5_readInto_52 : decode cX5_readInto 52 = .ok (.if_icmp .eq 8, 3) := by decide +kernel
theorem dX5_readInto_55 : decode cX5_readInto 55 = .ok (.aload_n 0, 1) := by decide +kernel
theorem dX5_readInto_56 : decode cX5_readInto 56 = .ok (.getfield 24, 3) := by decide +kernel
theorem dX5_readInto_59 : decode cX5_readInto 59 = .ok (.ireturn, 1) := by decide +kernel
theorem dX5_readInto_60 : decode cX5_readInto 60 = .ok (.aload_n 0, 1) := by decide +kernel
theorem dX5_readInto_61 : decode cX5_readInto 61 = .ok (.dup, 1) := by decide +kernel
theorem dX5_readInto_62 : decode cX5_readInto 62 = .ok (.getfield 24, 3) := by decide +kernel
theorem dX5_readInto_65 : decode cX5_readInto 65 = .ok (.iconst 1, 1) := by decide +kernel
theorem dX5_readInto_66 : decode cX5_readInto 66 = .ok (.iadd, 1) := by decide +kernel
theorem dX5_readInto_67 : decode cX5_readInto 67 = .ok (.putfield 24, 3) := by decide +kernel
theorem dX5_readInto_70 : decode cX5_readInto 70 = .ok (.aload_n 0, 1) := by decide +kernel
theorem dX5_readInto_71 : decode cX5_readInto 71 = .ok (.invokevirtual 27, 3) := by decide +kernel
theorem dX5_readInto_74 : decode cX5_readInto 74 = .ok (.aload_n 0, 1) := by decide +kernel
theorem dX5_readInto_75 : decode cX5_readInto 75 = .ok (.aload_n 1, 1) := by decide +kernel
theorem dX5_readInto_76 : decode cX5_readInto 76 = .ok (.invokevirtual 34, 3) := by decide +kernel
theorem dX5_readInto_79 : decode cX5_readInto 79 = .ok (.istore_n 2, 1) := by decide +kernel
theorem dX5_readInto_80 : decode cX5_readInto 80 = .ok (.goto (-50), 3) := by decide +kernel
theorem dX5_readInto_83 : decode cX5_readInto 83 = .ok (.iload_n 2, 1) := by decide +kernel
theorem dX5_readInto_84 : decode cX5_readInto 84 = .ok (.ireturn, 1) := by decide +kernel
theorem dX5_readPoint_0 : decode cX5_readPoint 0 = .ok (.aload_n 0, 1) := by decide +kernel
theorem dX5_readPoint_1 : decode cX5_readPoint 1 = .ok (.invokevirtual 38, 3) := by decide +kernel
theorem dX5_readPoint_4 : decode cX5_readPoint 4 = .ok (.ifCond .ne 8, 3) := by decide +kernel
theorem dX5_readPoint_7 : decode cX5_readPoint 7 = .ok (.aload_n 0, 1) := by decide +kernel
theorem dX5_readPoint_8 : decode cX5_readPoint 8 = .ok (.getfield 24, 3) := by decide +kernel
theorem dX5_readPoint_11 : decode cX5_readPoint 11 = .ok (.ireturn, 1) := by decide +kernel
theorem dX5_readPoint_12 : decode cX5_readPoint 12 = .ok (.aload_n 0, 1) := by decide +kernel
theorem dX5_readPoint_13 : decode cX5_readPoint 13 = .ok (.getfield 24, 3) := by decide +kernel
theorem dX5_readPoint_16 : decode cX5_readPoint 16 = .ok (.istore_n 2, 1) := by decide +kernel
theorem dX5_readPoint_17 : decode cX5_readPoint 17 = .ok (.aload_n 0, 1) := by decide +kernel
theorem dX5_readPoint_18 : decode cX5_readPoint 18 = .ok (.invokevirtual 42, 3) := by decide +kernel
theorem dX5_readPoint_21 : decode cX5_readPoint 21 = .ok (.istore_n 3, 1) := by decide +kernel
theorem dX5_readPoint_22 : decode cX5_readPoint 22 = .ok (.aload_n 1, 1) := by decide +kernel
theorem dX5_readPoint_23 : decode cX5_readPoint 23 = .ok (.iload_n 3, 1) := by decide +kernel
theorem dX5_readPoint_24 : decode cX5_readPoint 24 = .ok (.invokevirtual 45, 3) := by decide +kernel
theorem dX5_readPoint_27 : decode cX5_readPoint 27 = .ok (.ifCond .ne 5, 3) := by decide +kernel
theorem dX5_readPoint_30 : decode cX5_readPoint 30 = .ok (.iload_n 2, 1) := by decide +kernel
theorem dX5_readPoint_31 : decode cX5_readPoint 31 = .ok (.ireturn, 1) := by decide +kernel
theorem dX5_readPoint_32 : decode cX5_readPoint 32 = .ok (.aload_n 0, 1) := by decide +kernel
theorem dX5_readPoint_33 : decode cX5_readPoint 33 = .ok (.invokevirtual 27, 3) := by decide +kernel
theorem dX5_readPoint_36 : decode cX5_readPoint 36 = .ok (.aload_n 0, 1) := by decide +kernel
theorem dX5_readPoint_37 : decode cX5_readPoint 37 = .ok (.invokevirtual 30, 3) := by decide +kernel
theorem dX5_readPoint_40 : decode cX5_readPoint 40 = .ok (.bipush 61, 2) := by decide +kernel
theorem dX5_readPoint_42 : decode cX5_readPoint 42 = .ok (.if_icmp .eq 8, 3) := by decide +kernel
theorem dX5_readPoint_45 : decode cX5_readPoint 45 = .ok (.aload_n 0, 1) := by decide +kernel
theorem dX5_readPoint_46 : decode cX5_readPoint 46 = .ok (.getfield 24, 3) := by decide +kernel
theorem dX5_readPoint_49 : decode cX5_readPoint 49 = .ok (.ireturn, 1) := by decide +kernel
theorem dX5_readPoint_50 : decode cX5_readPoint 50 = .ok (.aload_n 0, 1) := by decide +kernel
theorem dX5_readPoint_51 : decode cX5_readPoint 51 = .ok (.dup, 1) := by decide +kernel
theorem dX5_readPoint_52 : decode cX5_readPoint 52 = .ok (.getfield 24, 3) := by decide +kernel
theorem dX5_readPoint_55 : decode cX5_readPoint 55 = .ok (.iconst 1, 1) := by decide +kernel
theorem dX5_readPoint_56 : decode cX5_readPoint 56 = .ok (.iadd, 1) := by decide +kernel
theorem dX5_readPoint_57 : decode cX5_readPoint 57 = .ok (.putfield 24, 3) := by decide +kernel
theorem dX5_readPoint_60 : decode cX5_readPoint 60 = .ok (.aload_n 0, 1) := by decide +kernel
theorem dX5_readPoint_61 : decode cX5_readPoint 61 = .ok (.invokevirtual 27, 3) := by decide +kernel
theorem dX5_readPoint_64 : decode cX5_readPoint 64 = .ok (.aload_n 0, 1) := by decide +kernel
theorem dX5_readPoint_65 : decode cX5_readPoint 65 = .ok (.aload_n 1, 1) := by decide +kernel
theorem dX5_readPoint_66 : decode cX5_readPoint 66 = .ok (.iload_n 3, 1) := by decide +kernel
theorem dX5_readPoint_67 : decode cX5_readPoint 67 = .ok (.invokevirtual 49, 3) := by decide +kernel
theorem dX5_readPoint_70 : decode cX5_readPoint 70 = .ok (.ireturn, 1) := by decide +kernel
theorem dX5_readTemperature_0 : decode cX5_readTemperature 0 = .ok (.aload_n 0, 1) := by decide +kernel
theorem dX5_readTemperature_1 : decode cX5_readTemperature 1 = .ok (.getfield 24, 3) := by decide +kernel
theorem dX5_readTemperature_4 : decode cX5_readTemperature 4 = .ok (.istore_n 3, 1) := by decide +kernel
theorem dX5_readTemperature_5 : decode cX5_readTemperature 5 = .ok (.aload_n 0, 1) := by decide +kernel
theorem dX5_readTemperature_6 : decode cX5_readTemperature 6 = .ok (.invokevirtual 30, 3) := by decide +kernel
theorem dX5_readTemperature_9 : decode cX5_readTemperature 9 = .ok (.bipush 45, 2) := by decide +kernel
theorem dX5_readTemperature_11 : decode cX5_readTemperature 11 = .ok (.if_icmp .ne 7, 3) := by decide +kernel
theorem dX5_readTemperature_14 : decode cX5_readTemperature 14 = .ok (.iconst 1, 1) := by decide +kernel
theorem dX5_readTemperature_15 : decode cX5_readTemperature 15 = .ok (.goto 4, 3) := by decide +kernel
theorem dX5_readTemperature_18 : decode cX5_readTemperature 18 = .ok (.iconst 0, 1) := by decide +kernel
theorem dX5_readTemperature_19 : decode cX5_readTemperature 19 = .ok (.istore 4, 2) := by decide +kernel
theorem dX5_readTemperature_21 : decode cX5_readTemperature 21 = .ok (.iload 4, 2) := by decide +kernel
theorem dX5_readTemperature_23 : decode cX5_readTemperature 23 = .ok (.ifCond .eq 13, 3) := by decide +kernel
theorem dX5_readTemperature_26 : decode cX5_readTemperature 26 = .ok (.aload_n 0, 1) := by decide +kernel
theorem dX5_readTemperature_27 : decode cX5_readTemperature 27 = .ok (.dup, 1) := by decide +kernel
theorem dX5_readTemperature_28 : decode cX5_readTemperature 28 = .ok (.getfield 24, 3) := by decide +kernel
theorem dX5_readTemperature_31 : decode cX5_readTemperature 31 = .ok (.iconst 1, 1) := by decide +kernel
theorem dX5_readTemperature_32 : decode cX5_readTemperature 32 = .ok (.iadd, 1) := by decide +kernel
theorem dX5_readTemperature_33 : decode cX5_readTemperature 33 = .ok (.putfield 24, 3) := by decide +kernel
theorem dX5_readTemperature_36 : decode cX5_readTemperature 36 = .ok (.aload_n 0, 1) := by decide +kernel
theorem dX5_readTemperature_37 : decode cX5_readTemperature 37 = .ok (.invokevirtual 38, 3) := by decide +kernel
theorem dX5_readTemperature_40 : decode cX5_readTemperature 40 = .ok (.ifCond .ne 8, 3) := by decide +kernel
theorem dX5_readTemperature_43 : decode cX5_readTemperature 43 = .ok (.aload_n 0, 1) := by decide +kernel
theorem dX5_readTemperature_44 : decode cX5_readTemperature 44 = .ok (.getfield 24, 3) := by decide +kernel
theorem dX5_readTemperature_47 : decode cX5_readTemperature 47 = .ok (.ireturn, 1) := by decide +kernel
theorem dX5_readTemperature_48 : decode cX5_readTemperature 48 = .ok (.aload_n 0, 1) := by decide +kernel
theorem dX5_readTemperature_49 : decode cX5_readTemperature 49 = .ok (.invokevirtual 42, 3) := by decide +kernel
theorem dX5_readTemperature_52 : decode cX5_readTemperature 52 = .ok (.istore 5, 2) := by decide +kernel
theorem dX5_readTemperature_54 : decode cX5_readTemperature 54 = .ok (.iload 5, 2) := by decide +kernel
theorem dX5_readTemperature_56 : decode cX5_readTemperature 56 = .ok (.bipush 40, 2) := by decide +kernel
theorem dX5_readTemperature_58 : decode cX5_readTemperature 58 = .ok (.if_icmp .le 5, 3) := by decide +kernel
theorem dX5_readTemperature_61 : decode cX5_readTemperature 61 = .ok (.iload_n 3, 1) := by decide +kernel
theorem dX5_readTemperature_62 : decode cX5_readTemperature 62 = .ok (.ireturn, 1) := by decide +kernel
theorem dX5_readTemperature_63 : decode cX5_readTemperature 63 = .ok (.aload_n 1, 1) := by decide +kernel
theorem dX5_readTemperature_64 : decode cX5_readTemperature 64 = .ok (.iload_n 2, 1) := by decide +kernel
theorem dX5_readTemperature_65 : decode cX5_readTemperature 65 = .ok (.iload 4, 2) := by decide +kernel
theorem dX5_readTemperature_67 : decode cX5_readTemperature 67 = .ok (.ifCond .eq 9, 3) := by decide +kernel
theorem dX5_readTemperature_70 : decode cX5_readTemperature 70 = .ok (.iload 5, 2) := by decide +kernel
theorem dX5_readTemperature_72 : decode cX5_readTemperature 72 = .ok (.ineg, 1) := by decide +kernel
theorem dX5_readTemperature_73 : decode cX5_readTemperature 73 = .ok (.goto 5, 3) := by decide +kernel
theorem dX5_readTemperature_76 : decode cX5_readTemperature 76 = .ok (.iload 5, 2) := by decide +kernel
theorem dX5_readTemperature_78 : decode cX5_readTemperature 78 = .ok (.invokevirtual 53, 3) := by decide +kernel
theorem dX5_readTemperature_81 : decode cX5_readTemperature 81 = .ok (.aload_n 0, 1) := by decide +kernel
theorem dX5_readTemperature_82 : decode cX5_readTemperature 82 = .ok (.invokevirtual 27, 3) := by decide +kernel
theorem dX5_readTemperature_85 : decode cX5_readTemperature 85 = .ok (.iconst (-1), 1) := by decide +kernel
theorem dX5_readTemperature_86 : decode cX5_readTemperature 86 = .ok (.ireturn, 1) := by decide +kernel
theorem dX5_readNumber_0 : decode cX5_readNumber 0 = .ok (.aload_n 0, 1) := by decide +kernel
theorem dX5_readNumber_1 : decode cX5_readNumber 1 = .ok (.invokevirtual 30, 3) := by decide +kernel
theorem dX5_readNumber_4 : decode cX5_readNumber 4 = .ok (.bipush 48, 2) := by decide +kernel
theorem dX5_readNumber_6 : decode cX5_readNumber 6 = .ok (.if_icmp .ne 7, 3) := by decide +kernel
theorem dX5_readNumber_9 : decode cX5_readNumber 9 = .ok (.iconst 1, 1) := by decide +kernel
theorem dX5_readNumber_10 : decode cX5_readNumber 10 = .ok (.goto 4, 3) := by decide +kernel
theorem dX5_readNumber_13 : decode cX5_readNumber 13 = .ok (.iconst 0, 1) := by decide +kernel
theorem dX5_readNumber_14 : decode cX5_readNumber 14 = .ok (.istore_n 1, 1) := by decide +kernel
theorem dX5_readNumber_15 : decode cX5_readNumber 15 = .ok (.aload_n 0, 1) := by decide +kernel
theorem dX5_readNumber_16 : decode cX5_readNumber 16 = .ok (.getfield 24, 3) := by decide +kernel
theorem dX5_readNumber_19 : decode cX5_readNumber 19 = .ok (.istore_n 2, 1) := by decide +kernel
theorem dX5_readNumber_20 : decode cX5_readNumber 20 = .ok (.iconst 0, 1) := by decide +kernel
theorem dX5_readNumber_21 : decode cX5_readNumber 21 = .ok (.istore_n 3, 1) := by decide +kernel
theorem dX5_readNumber_22 : decode cX5_readNumber 22 = .ok (.aload_n 0, 1) := by decide +kernel
theorem dX5_readNumber_23 : decode cX5_readNumber 23 = .ok (.getfield 24, 3) := by decide +kernel
theorem dX5_readNumber_26 : decode cX5_readNumber 26 = .ok (.aload_n 0, 1) := by decide +kernel
theorem dX5_readNumber_27 : decode cX5_readNumber 27 = .ok (.getfield 15, 3) := by decide +kernel
theorem dX5_readNumber_30 : decode cX5_readNumber 30 = .ok (.if_icmp .ge 41, 3) := by decide +kernel
theorem dX5_readNumber_33 : decode cX5_readNumber 33 = .ok (.aload_n 0, 1) := by decide +kernel
theorem dX5_readNumber_34 : decode cX5_readNumber 34 = .ok (.invokevirtual 38, 3) := by decide +kernel
theorem dX5_readNumber_37 : decode cX5_readNumber 37 = .ok (.ifCond .eq 34, 3) := by decide +kernel
theorem dX5_readNumber_40 : decode cX5_readNumber 40 = .ok (.bipush 10, 2) := by decide +kernel
theorem dX5_readNumber_42 : decode cX5_readNumber 42 = .ok (.iload_n 3, 1) := by decide +kernel
theorem dX5_readNumber_43 : decode cX5_readNumber 43 = .ok (.imul, 1) := by decide +kernel
theorem dX5_readNumber_44 : decode cX5_readNumber 44 = .ok (.aload_n 0, 1) := by decide +kernel
theorem dX5_readNumber_45 : decode cX5_readNumber 45 = .ok (.invokevirtual 30, 3) := by decide +kernel
theorem dX5_readNumber_48 : decode cX5_readNumber 48 = .ok (.iadd, 1) := by decide +kernel
theorem dX5_readNumber_49 : decode cX5_readNumber 49 = .ok (.bipush 48, 2) := by decide +kernel
theorem dX5_readNumber_51 : decode cX5_readNumber 51 = .ok (.isub, 1) := by decide +kernel
theorem dX5_readNumber_52 : decode cX5_readNumber 52 = .ok (.ldc 57, 2) := by decide +kernel
theorem dX5_readNumber_54 : decode cX5_readNumber 54 = .ok (.invokestatic 58, 3) := by decide +kernel
theorem dX5_readNumber_57 : decode cX5_readNumber 57 = .ok (.istore_n 3, 1) := by decide +kernel
theorem dX5_readNumber_58 : decode cX5_readNumber 58 = .ok (.aload_n 0, 1) := by decide +kernel
theorem dX5_readNumber_59 : decode cX5_readNumber 59 = .ok (.dup, 1) := by decide +kernel
theorem dX5_readNumber_60 : decode cX5_readNumber 60 = .ok (.getfield 24, 3) := by decide +kernel
theorem dX5_readNumber_63 : decode cX5_readNumber 63 = .ok (.iconst 1, 1) := by decide +kernel
theorem dX5_readNumber_64 : decode cX5_readNumber 64 = .ok (.iadd, 1) := by decide +kernel
theorem dX5_readNumber_65 : decode cX5_readNumber 65 = .ok (.putfield 24, 3) := by decide +kernel
theorem dX5_readNumber_68 : decode cX5_readNumber 68 = .ok (.goto (-46), 3) := by decide +kernel
theorem dX5_readNumber_71 : decode cX5_readNumber 71 = .ok (.iload_n 1, 1) := by decide +kernel
theorem dX5_readNumber_72 : decode cX5_readNumber 72 = .ok (.ifCond .eq 18, 3) := by decide +kernel
theorem dX5_readNumber_75 : decode cX5_readNumber 75 = .ok (.aload_n 0, 1) := by decide +kernel
theorem dX5_readNumber_76 : decode cX5_readNumber 76 = .ok (.getfield 24, 3) := by decide +kernel
theorem dX5_readNumber_79 : decode cX5_readNumber 79 = .ok (.iload_n 2, 1) := by decide +kernel
theorem dX5_readNumber_80 : decode cX5_readNumber 80 = .ok (.iconst 1, 1) := by decide +kernel
theorem dX5_readNumber_81 : decode cX5_readNumber 81 = .ok (.iadd, 1) := by decide +kernel
theorem dX5_readNumber_82 : decode cX5_readNumber 82 = .ok (.if_icmp .le 8, 3) := by decide +kernel
theorem dX5_readNumber_85 : decode cX5_readNumber 85 = .ok (.ldc 57, 2) := by decide +kernel
theorem dX5_readNumber_87 : decode cX5_readNumber 87 = .ok (.goto 4, 3) := by decide +kernel
theorem dX5_readNumber_90 : decode cX5_readNumber 90 = .ok (.iload_n 3, 1) := by decide +kernel
theorem dX5_readNumber_91 : decode cX5_readNumber 91 = .ok (.ireturn, 1) := by decide +kernel
theorem dX5_skipSpaces_0 : decode cX5_skipSpaces 0 = .ok (.aload_n 0, 1) := by decide +kernel
theorem dX5_skipSpaces_1 : decode cX5_skipSpaces 1 = .ok (.getfield 24, 3) := by decide +kernel
theorem dX5_skipSpaces_4 : decode cX5_skipSpaces 4 = .ok (.aload_n 0, 1) := by decide +kernel
theorem dX5_skipSpaces_5 : decode cX5_skipSpaces 5 = .ok (.getfield 15, 3) := by decide +kernel
theorem dX5_skipSpaces_8 : decode cX5_skipSpaces 8 = .ok (.if_icmp .ge 25, 3) := by decide +kernel
theorem dX5_skipSpaces_11 : decode cX5_skipSpaces 11 = .ok (.aload_n 0, 1) := by decide +kernel
theorem dX5_skipSpaces_12 : decode cX5_skipSpaces 12 = .ok (.invokevirtual 30, 3) := by decide +kernel
theorem dX5_skipSpaces_15 : decode cX5_skipSpaces 15 = .ok (.bipush 32, 2) := by decide +kernel
theorem dX5_skipSpaces_17 : decode cX5_skipSpaces 17 = .ok (.if_icmp .ne 16, 3) := by decide +kernel
theorem dX5_skipSpaces_20 : decode cX5_skipSpaces 20 = .ok (.aload_n 0, 1) := by decide +kernel
theorem dX5_skipSpaces_21 : decode cX5_skipSpaces 21 = .ok (.dup, 1) := by decide +kernel
theorem dX5_skipSpaces_22 : decode cX5_skipSpaces 22 = .ok (.getfield 24, 3) := by decide +kernel
theorem dX5_skipSpaces_25 : decode cX5_skipSpaces 25 = .ok (.iconst 1, 1) := by decide +kernel
theorem dX5_skipSpaces_26 : decode cX5_skipSpaces 26 = .ok (.iadd, 1) := by decide +kernel
theorem dX5_skipSpaces_27 : decode cX5_skipSpaces 27 = .ok (.putfield 24, 3) := by decide +kernel
theorem dX5_skipSpaces_30 : decode cX5_skipSpaces 30 = .ok (.goto (-30), 3) := by decide +kernel
theorem dX5_skipSpaces_33 : decode cX5_skipSpaces 33 = .ok (.return_, 1) := by decide +kernel
theorem dX5_isDigitHere_0 : decode cX5_isDigitHere 0 = .ok (.aload_n 0, 1) := by decide +kernel
theorem dX5_isDigitHere_1 : decode cX5_isDigitHere 1 = .ok (.invokevirtual 30, 3) := by decide +kernel
theorem dX5_isDigitHere_4 : decode cX5_isDigitHere 4 = .ok (.bipush 48, 2) := by decide +kernel
theorem dX5_isDigitHere_6 : decode cX5_isDigitHere 6 = .ok (.bipush 57, 2) := by decide +kernel
theorem dX5_isDigitHere_8 : decode cX5_isDigitHere 8 = .ok (.invokestatic 64, 3) := by decide +kernel
theorem dX5_isDigitHere_11 : decode cX5_isDigitHere 11 = .ok (.ireturn, 1) := by decide +kernel
theorem dX5_here_0 : decode cX5_here 0 = .ok (.aload_n 0, 1) := by decide +kernel
theorem dX5_here_1 : decode cX5_here 1 = .ok (.getfield 24, 3) := by decide +kernel
theorem dX5_here_4 : decode cX5_here 4 = .ok (.ifCond .lt 35, 3) := by decide +kernel
theorem dX5_here_7 : decode cX5_here 7 = .ok (.aload_n 0, 1) := by decide +kernel
theorem dX5_here_8 : decode cX5_here 8 = .ok (.getfield 24, 3) := by decide +kernel
theorem dX5_here_11 : decode cX5_here 11 = .ok (.aload_n 0, 1) := by decide +kernel
theorem dX5_here_12 : decode cX5_here 12 = .ok (.getfield 15, 3) := by decide +kernel
theorem dX5_here_15 : decode cX5_here 15 = .ok (.if_icmp .ge 24, 3) := by decide +kernel
theorem dX5_here_18 : decode cX5_here 18 = .ok (.aload_n 0, 1) := by decide +kernel
theorem dX5_here_19 : decode cX5_here 19 = .ok (.getfield 24, 3) := by decide +kernel
theorem dX5_here_22 : decode cX5_here 22 = .ok (.bipush 100, 2) := by decide +kernel
theorem dX5_here_24 : decode cX5_here 24 = .ok (.if_icmp .ge 15, 3) := by decide +kernel
theorem dX5_here_27 : decode cX5_here 27 = .ok (.aload_n 0, 1) := by decide +kernel
theorem dX5_here_28 : decode cX5_here 28 = .ok (.getfield 9, 3) := by decide +kernel
theorem dX5_here_31 : decode cX5_here 31 = .ok (.aload_n 0, 1) := by decide +kernel
theorem dX5_here_32 : decode cX5_here 32 = .ok (.getfield 24, 3) := by decide +kernel
theorem dX5_here_35 : decode cX5_here 35 = .ok (.iaload, 1) := by decide +kernel
theorem dX5_here_36 : decode cX5_here 36 = .ok (.goto 4, 3) := by decide +kernel
theorem dX5_here_39 : decode cX5_here 39 = .ok (.iconst (-1), 1) := by decide +kernel
theorem dX5_here_40 : decode cX5_here 40 = .ok (.ireturn, 1) := by decide +kernel
theorem dX6_init_0 : decode cX6_init 0 = .ok (.aload_n 0, 1) := by decide +kernel
theorem dX6_init_1 : decode cX6_init 1 = .ok (.invokespecial 1, 3) := by decide +kernel
theorem dX6_init_4 : decode cX6_init 4 = .ok (.aload_n 0, 1) := by decide +kernel
theorem dX6_init_5 : decode cX6_init 5 = .ok (.new 7, 3) := by decide +kernel
theorem dX6_init_8 : decode cX6_init 8 = .ok (.dup, 1) := by decide +kernel
theorem dX6_init_9 : decode cX6_init 9 = .ok (.invokespecial 9, 3) := by decide +kernel
theorem dX6_init_12 : decode cX6_init 12 = .ok (.putfield 10, 3) := by decide +kernel
theorem dX6_init_15 : decode cX6_init 15 = .ok (.aload_n 0, 1) := by decide +kernel
theorem dX6_init_16 : decode cX6_init 16 = .ok (.new 7, 3) := by decide +kernel
theorem dX6_init_19 : decode cX6_init 19 = .ok (.dup, 1) := by decide +kernel
theorem dX6_init_20 : decode cX6_init 20 = .ok (.invokespecial 9, 3) := by decide +kernel
theorem dX6_init_23 : decode cX6_init 23 = .ok (.putfield 16, 3) := by decide +kernel
theorem dX6_init_26 : decode cX6_init 26 = .ok (.aload_n 0, 1) := by decide +kernel
theorem dX6_init_27 : decode cX6_init 27 = .ok (.new 19, 3) := by decide +kernel
theorem dX6_init_30 : decode cX6_init 30 = .ok (.dup, 1) := by decide +kernel
theorem dX6_init_31 : decode cX6_init 31 = .ok (.invokespecial 21, 3) := by decide +kernel
theorem dX6_init_34 : decode cX6_init 34 = .ok (.putfield 22, 3) := by decide +kernel
theorem dX6_init_37 : decode cX6_init 37 = .ok (.aload_n 0, 1) := by decide +kernel
theorem dX6_init_38 : decode cX6_init 38 = .ok (.new 26, 3) := by decide +kernel
theorem dX6_init_41 : decode cX6_init 41 = .ok (.dup, 1) := by decide +kernel
theorem dX6_init_42 : decode cX6_init 42 = .ok (.invokespecial 28, 3) := by decide +kernel
theorem dX6_init_45 : decode cX6_init 45 = .ok (.putfield 29, 3) := by decide +kernel
theorem dX6_init_48 : decode cX6_init 48 = .ok (.aload_n 0, 1) := by decide +kernel
theorem dX6_init_49 : decode cX6_init 49 = .ok (.new 33, 3) := by decide +kernel
theorem dX6_init_52 : decode cX6_init 52 = .ok (.dup, 1) := by decide +kernel
theorem dX6_init_53 : decode cX6_init 53 = .ok (.invokespecial 35, 3) := by decide +kernel
theorem dX6_init_56 : decode cX6_init 56 = .ok (.putfield 36, 3) := by decide +kernel
theorem dX6_init_59 : decode cX6_init 59 = .ok (.return_, 1) := by decide +kernel
theorem dX6_addRoom_0 : decode cX6_addRoom 0 = .ok (.iload_n 1, 1) := by decide +kernel
theorem dX6_addRoom_1 : decode cX6_addRoom 1 = .ok (.bipush 10, 2) := by decide +kernel
theorem dX6_addRoom_3 : decode cX6_addRoom 3 = .ok (.sipush 500, 3) := by decide +kernel
theorem dX6_addRoom_6 : decode cX6_addRoom 6 = .ok (.invokestatic 40, 3) := by decide +kernel
theorem dX6_addRoom_9 : decode cX6_addRoom 9 = .ok (.ifCond .eq 43, 3) := by decide +kernel
theorem dX6_addRoom_12 : decode cX6_addRoom 12 = .ok (.iload_n 2, 1) := by decide +kernel
theorem dX6_addRoom_13 : decode cX6_addRoom 13 = .ok (.iconst 1, 1) := by decide +kernel
theorem dX6_addRoom_14 : decode cX6_addRoom 14 = .ok (.sipush 200, 3) := by decide +kernel
theorem dX6_addRoom_17 : decode cX6_addRoom 17 = .ok (.invokestatic 40, 3) := by decide +kernel
theorem dX6_addRoom_20 : decode cX6_addRoom 20 = .ok (.ifCond .eq 32, 3) := by decide +kernel
theorem dX6_addRoom_23 : decode cX6_addRoom 23 = .ok (.iload_n 3, 1) := by decide +kernel
theorem dX6_addRoom_24 : decode cX6_addRoom 24 = .ok (.iconst 0, 1) := by decide +kernel
theorem dX6_addRoom_25 : decode cX6_addRoom 25 = .ok (.bipush 50, 2) := by decide +kernel
theorem dX6_addRoom_27 : decode cX6_addRoom 27 = .ok (.invokestatic 40, 3) := by decide +kernel
theorem dX6_addRoom_30 : decode cX6_addRoom 30 = .ok (.ifCond .eq 22, 3) := by decide +kernel
theorem dX6_addRoom_33 : decode cX6_addRoom 33 = .ok (.iload_n 3, 1) := by decide +kernel
theorem dX6_addRoom_34 : decode cX6_addRoom 34 = .ok (.iload_n 1, 1) := by decide +kernel
theorem dX6_addRoom_35 : decode cX6_addRoom 35 = .ok (.iconst 2, 1) := by decide +kernel
theorem dX6_addRoom_36 : decode cX6_addRoom 36 = .ok (.idiv, 1) := by decide +kernel
theorem dX6_addRoom_37 : decode cX6_addRoom 37 = .ok (.if_icmp .gt 15, 3) := by decide +kernel
theorem dX6_addRoom_40 : decode cX6_addRoom 40 = .ok (.iload 4, 2) := by decide +kernel
theorem dX6_addRoom_42 : decode cX6_addRoom 42 = .ok (.bipush (-40), 2) := by decide +kernel
theorem dX6_addRoom_44 : decode cX6_addRoom 44 = .ok (.bipush 40, 2) := by decide +kernel
theorem dX6_addRoom_46 : decode cX6_addRoom 46 = .ok (.invokestatic 40, 3) := by decide +kernel
theorem dX6_addRoom_49 : decode cX6_addRoom 49 = .ok (.ifCond .ne 6, 3) := by decide +kernel
theorem dX6_addRoom_52 : decode cX6_addRoom 52 = .ok (.ldc 44, 2) := by decide +kernel
theorem dX6_addRoom_54 : decode cX6_addRoom 54 = .ok (.ireturn, 1) := by decide +kernel
theorem dX6_addRoom_55 : decode cX6_addRoom 55 = .ok (.aload_n 0, 1) := by decide +kernel
theorem dX6_addRoom_56 : decode cX6_addRoom 56 = .ok (.getfield 10, 3) := by decide +kernel
theorem dX6_addRoom_59 : decode cX6_addRoom 59 = .ok (.getfield 45, 3) := by decide +kernel
theorem dX6_addRoom_62 : decode cX6_addRoom 62 = .ok (.bipush 6, 2) := by decide +kernel
theorem dX6_addRoom_64 : decode cX6_addRoom 64 = .ok (.if_icmp .lt 6, 3) := by decide +kernel
theorem dX6_addRoom_67 : decode cX6_addRoom 67 = .ok (.ldc 49, 2) := by decide +kernel
theorem dX6_addRoom_69 : decode cX6_addRoom 69 = .ok (.ireturn, 1) := by decide +kernel
theorem dX6_addRoom_70 : decode cX6_addRoom 70 = .ok (.aload_n 0, 1) := by decide +kernel
theorem dX6_addRoom_71 : decode cX6_addRoom 71 = .ok (.getfield 22, 3) := by decide +kernel
theorem dX6_addRoom_74 : decode cX6_addRoom 74 = .ok (.aload_n 0, 1) := by decide +kernel
theorem dX6_addRoom_75 : decode cX6_addRoom 75 = .ok (.getfield 10, 3) := by decide +kernel
theorem dX6_addRoom_78 : decode cX6_addRoom 78 = .ok (.invokevirtual 50, 3) := by decide +kernel
theorem dX6_addRoom_81 : decode cX6_addRoom 81 = .ok (.aload_n 0, 1) := by decide +kernel
theorem dX6_addRoom_82 : decode cX6_addRoom 82 = .ok (.getfield 10, 3) := by decide +kernel
theorem dX6_addRoom_85 : decode cX6_addRoom 85 = .ok (.iload_n 1, 1) := by decide +kernel
theorem dX6_addRoom_86 : decode cX6_addRoom 86 = .ok (.iload_n 2, 1) := by decide +kernel
theorem dX6_addRoom_87 : decode cX6_addRoom 87 = .ok (.iload_n 3, 1) := by decide +kernel
theorem dX6_addRoom_88 : decode cX6_addRoom 88 = .ok (.iload 4, 2) := by decide +kernel
theorem dX6_addRoom_90 : decode cX6_addRoom 90 = .ok (.invokevirtual 54, 3) := by decide +kernel
theorem dX6_addRoom_93 : decode cX6_addRoom 93 = .ok (.ireturn, 1) := by decide +kernel
theorem dX6_setLink_0 : decode cX6_setLink 0 = .ok (.aload_n 0, 1) := by decide +kernel
theorem dX6_setLink_1 : decode cX6_setLink 1 = .ok (.getfield 10, 3) := by decide +kernel
theorem dX6_setLink_4 : decode cX6_setLink 4 = .ok (.iload_n 1, 1) := by decide +kernel
theorem dX6_setLink_5 : decode cX6_setLink 5 = .ok (.iload_n 2, 1) := by decide +kernel
theorem dX6_setLink_6 : decode cX6_setLink 6 = .ok (.invokevirtual 58, 3) := by decide +kernel
theorem dX6_setLink_9 : decode cX6_setLink 9 = .ok (.ifCond .eq 13, 3) := by decide +kernel
theorem dX6_setLink_12 : decode cX6_setLink 12 = .ok (.iload_n 3, 1) := by decide +kernel
theorem dX6_setLink_13 : decode cX6_setLink 13 = .ok (.iconst 0, 1) := by decide +kernel
theorem dX6_setLink_14 : decode cX6_setLink 14 = .ok (.bipush 50, 2) := by decide +kernel
theorem dX6_setLink_16 : decode cX6_setLink 16 = .ok (.invokestatic 40, 3) := by decide +kernel
theorem dX6_setLink_19 : decode cX6_setLink 19 = .ok (.ifCond .ne 6, 3) := by decide +kernel
theorem dX6_setLink_22 : decode cX6_setLink 22 = .ok (.ldc 44, 2) := by decide +kernel
theorem dX6_setLink_24 : decode cX6_setLink 24 = .ok (.ireturn, 1) := by decide +kernel
theorem dX6_setLink_25 : decode cX6_setLink 25 = .ok (.aload_n 0, 1) := by decide +kernel
theorem dX6_setLink_26 : decode cX6_setLink 26 = .ok (.getfield 10, 3) := by decide +kernel
theorem dX6_setLink_29 : decode cX6_setLink 29 = .ok (.iload_n 1, 1) := by decide +kernel
theorem dX6_setLink_30 : decode cX6_setLink 30 = .ok (.iload_n 2, 1) := by decide +kernel
theorem dX6_setLink_31 : decode cX6_setLink 31 = .ok (.invokevirtual 62, 3) := by decide +kernel
theorem dX6_setLink_34 : decode cX6_setLink 34 = .ok (.istore 4, 2) := by decide +kernel
theorem dX6_setLink_36 : decode cX6_setLink 36 = .ok (.iload_n 3, 1) := by decide +kernel
theorem dX6_setLink_37 : decode cX6_setLink 37 = .ok (.iload 4, 2) := by decide +kernel
theorem dX6_setLink_39 : decode cX6_setLink 39 = .ok (.isub, 1) := by decide +kernel
theorem dX6_setLink_40 : decode cX6_setLink 40 = .ok (.istore 5, 2) := by decide +kernel
theorem dX6_setLink_42 : decode cX6_setLink 42 = .ok (.aload_n 0, 1) := by decide +kernel
theorem dX6_setLink_43 : decode cX6_setLink 43 = .ok (.getfield 10, 3) := by decide +kernel
theorem dX6_setLink_46 : decode cX6_setLink 46 = .ok (.iload_n 1, 1) := by decide +kernel
theorem dX6_setLink_47 : decode cX6_setLink 47 = .ok (.iload 5, 2) := by decide +kernel
theorem dX6_setLink_49 : decode cX6_setLink 49 = .ok (.invokevirtual 66, 3) := by decide +kernel
theorem dX6_setLink_52 : decode cX6_setLink 52 = .ok (.ifCond .eq 16, 3) := by decide +kernel
theorem dX6_setLink_55 : decode cX6_setLink 55 = .ok (.aload_n 0, 1) := by decide +kernel
theorem dX6_setLink_56 : decode cX6_setLink 56 = .ok (.getfield 10, 3) := by decide +kernel
theorem dX6_setLink_59 : decode cX6_setLink 59 = .ok (.iload_n 2, 1) := by decide +kernel
theorem dX6_setLink_60 : decode cX6_setLink 60 = .ok (.iload 5, 2) := by decide +kernel
theorem dX6_setLink_62 : decode cX6_setLink 62 = .ok (.invokevirtual 66, 3) := by decide +kernel
theorem dX6_setLink_65 : decode cX6_setLink 65 = .ok (.ifCond .ne 6, 3) := by decide +kernel
theorem dX6_setLink_68 : decode cX6_setLink 68 = .ok (.ldc 69, 2) := by decide +kernel
theorem dX6_setLink_70 : decode cX6_setLink 70 = .ok (.ireturn, 1) := by decide +kernel
theorem dX6_setLink_71 : decode cX6_setLink 71 = .ok (.aload_n 0, 1) := by decide +kernel
theorem dX6_setLink_72 : decode cX6_setLink 72 = .ok (.getfield 22, 3) := by decide +kernel
theorem dX6_setLink_75 : decode cX6_setLink 75 = .ok (.aload_n 0, 1) := by decide +kernel
theorem dX6_setLink_76 : decode cX6_setLink 76 = .ok (.getfield 10, 3) := by decide +kernel
theorem dX6_setLink_79 : decode cX6_setLink 79 = .ok (.invokevirtual 50, 3) := by decide +kernel
theorem dX6_setLink_82 : decode cX6_setLink 82 = .ok (.aload_n 0, 1) := by decide +kernel
theorem dX6_setLink_83 : decode cX6_setLink 83 = .ok (.getfield 10, 3) := by decide +kernel
theorem dX6_setLink_86 : decode cX6_setLink 86 = .ok (.iload_n 1, 1) := by decide +kernel
theorem dX6_setLink_87 : decode cX6_setLink 87 = .ok (.iload_n 2, 1) := by decide +kernel
theorem dX6_setLink_88 : decode cX6_setLink 88 = .ok (.iload_n 3, 1) := by decide +kernel
theorem dX6_setLink_89 : decode cX6_setLink 89 = .ok (.invokevirtual 70, 3) := by decide +kernel
theorem dX6_setLink_92 : decode cX6_setLink 92 = .ok (.iload 4, 2) := by decide +kernel
theorem dX6_setLink_94 : decode cX6_setLink 94 = .ok (.ireturn, 1) := by decide +kernel
theorem dX6_setThermostat_0 : decode cX6_setThermostat 0 = .ok (.aload_n 0, 1) := by decide +kernel
theorem dX6_setThermostat_1 : decode cX6_setThermostat 1 = .ok (.getfield 10, 3) := by decide +kernel
theorem dX6_setThermostat_4 : decode cX6_setThermostat 4 = .ok (.iload_n 1, 1) := by decide +kernel
theorem dX6_setThermostat_5 : decode cX6_setThermostat 5 = .ok (.invokevirtual 74, 3) := by decide +kernel
theorem dX6_setThermostat_8 : decode cX6_setThermostat 8 = .ok (.astore 4, 2) := by decide +kernel
theorem dX6_setThermostat_10 : decode cX6_setThermostat 10 = .ok (.aload 4, 2) := by decide +kernel
theorem dX6_setThermostat_12 : decode cX6_setThermostat 12 = .ok (.ifnull 27, 3) := by decide +kernel
theorem dX6_setThermostat_15 : decode cX6_setThermostat 15 = .ok (.iload_n 2, 1) := by decide +kernel
theorem dX6_setThermostat_16 : decode cX6_setThermostat 16 = .ok (.sipush 5000, 3) := by decide +kernel
theorem dX6_setThermostat_19 : decode cX6_setThermostat 19 = .ok (.ldc 78, 2) := by decide +kernel
theorem dX6_setThermostat_21 : decode cX6_setThermostat 21 = .ok (.invokestatic 40, 3) := by decide +kernel
theorem dX6_setThermostat_24 : decode cX6_setThermostat 24 = .ok (.ifCond .eq 15, 3) := by decide +kernel
theorem dX6_setThermostat_27 : decode cX6_setThermostat 27 = .ok (.iload_n 3, 1) := by decide +kernel
theorem dX6_setThermostat_28 : decode cX6_setThermostat 28 = .ok (.bipush 100, 2) := by decide +kernel
theorem dX6_setThermostat_30 : decode cX6_setThermostat 30 = .ok (.sipush 5000, 3) := by decide +kernel
theorem dX6_setThermostat_33 : decode cX6_setThermostat 33 = .ok (.invokestatic 40, 3) := by decide +kernel
theorem dX6_setThermostat_36 : decode cX6_setThermostat 36 = .ok (.ifCond .ne 6, 3) := by decide +kernel
theorem dX6_setThermostat_39 : decode cX6_setThermostat 39 = .ok (.ldc 44, 2) := by decide +kernel
theorem dX6_setThermostat_41 : decode cX6_setThermostat 41 = .ok (.ireturn, 1) := by decide +kernel
theorem dX6_setThermostat_42 : decode cX6_setThermostat 42 = .ok (.aload_n 0, 1) := by decide +kernel
theorem dX6_setThermostat_43 : decode cX6_setThermostat 43 = .ok (.getfield 22, 3) := by decide +kernel
theorem dX6_setThermostat_46 : decode cX6_setThermostat 46 = .ok (.aload_n 0, 1) := by decide +kernel
theorem dX6_setThermostat_47 : decode cX6_setThermostat 47 = .ok (.getfield 10, 3) := by decide +kernel
theorem dX6_setThermostat_50 : decode cX6_setThermostat 50 = .ok (.invokevirtual 50, 3) := by decide +kernel
theorem dX6_setThermostat_53 : decode cX6_setThermostat 53 = .ok (.aload 4, 2) := by decide +kernel
theorem dX6_setThermostat_55 : decode cX6_setThermostat 55 = .ok (.getfield 79, 3) := by decide +kernel
theorem dX6_setThermostat_58 : decode cX6_setThermostat 58 = .ok (.iload_n 2, 1) := by decide +kernel
theorem dX6_setThermostat_59 : decode cX6_setThermostat 59 = .ok (.if_icmp .ne 16, 3) := by decide +kernel
theorem dX6_setThermostat_62 : decode cX6_setThermostat 62 = .ok (.aload 4, 2) := by decide +kernel
theorem dX6_setThermostat_64 : decode cX6_setThermostat 64 = .ok (.getfield 84, 3) := by decide +kernel
theorem dX6_setThermostat_67 : decode cX6_setThermostat 67 = .ok (.iload_n 3, 1) := by decide +kernel
theorem dX6_setThermostat_68 : decode cX6_setThermostat 68 = .ok (.if_icmp .ne 7, 3) := by decide +kernel
theorem dX6_setThermostat_71 : decode cX6_setThermostat 71 = .ok (.iconst 1, 1) := by decide +kernel
theorem dX6_setThermostat_72 : decode cX6_setThermostat 72 = .ok (.goto 4, 3) := by decide +kernel
theorem dX6_setThermostat_75 : decode cX6_setThermostat 75 = .ok (.iconst 0, 1) := by decide +kernel
theorem dX6_setThermostat_76 : decode cX6_setThermostat 76 = .ok (.istore 5, 2) := by decide +kernel
theorem dX6_setThermostat_78 : decode cX6_setThermostat 78 = .ok (.aload 4, 2) := by decide +kernel
theorem dX6_setThermostat_80 : decode cX6_setThermostat 80 = .ok (.iload_n 2, 1) := by decide +kernel
theorem dX6_setThermostat_81 : decode cX6_setThermostat 81 = .ok (.putfield 79, 3) := by decide +kernel
theorem dX6_setThermostat_84 : decode cX6_setThermostat 84 = .ok (.aload 4, 2) := by decide +kernel
theorem dX6_setThermostat_86 : decode cX6_setThermostat 86 = .ok (.iload_n 3, 1) := by decide +kernel
theorem dX6_setThermostat_87 : decode cX6_setThermostat 87 = .ok (.putfield 84, 3) := by decide +kernel
theorem dX6_setThermostat_90 : decode cX6_setThermostat 90 = .ok (.iload 5, 2) := by decide +kernel
theorem dX6_setThermostat_92 : decode cX6_setThermostat 92 = .ok (.ifCond .eq 7, 3) := by decide +kernel
theorem dX6_setThermostat_95 : decode cX6_setThermostat 95 = .ok (.iconst 0, 1) := by decide +kernel
theorem dX6_setThermostat_96 : decode cX6_setThermostat 96 = .ok (.goto 4, 3) := by decide +kernel
theorem dX6_setThermostat_99 : decode cX6_setThermostat 99 = .ok (.iconst 1, 1) := by decide +kernel
theorem dX6_setThermostat_100 : decode cX6_setThermostat 100 = .ok (.ireturn, 1) := by decide +kernel
theorem dX6_setNumber_0 : decode cX6_setNumber 0 = .ok (.iload_n 1, 1) := by decide +kernel
theorem dX6_setNumber_1 : decode cX6_setNumber 1 = .ok (.iload_n 2, 1) := by decide +kernel
theorem dX6_setNumber_2 : decode cX6_setNumber 2 = .ok (.invokestatic 87, 3) := by decide +kernel
theorem dX6_setNumber_5 : decode cX6_setNumber 5 = .ok (.ifCond .ne 6, 3) := by decide +kernel
theorem dX6_setNumber_8 : decode cX6_setNumber 8 = .ok (.ldc 44, 2) := by decide +kernel
theorem dX6_setNumber_10 : decode cX6_setNumber 10 = .ok (.ireturn, 1) := by decide +kernel
theorem dX6_setNumber_11 : decode cX6_setNumber 11 = .ok (.aload_n 0, 1) := by decide +kernel
theorem dX6_setNumber_12 : decode cX6_setNumber 12 = .ok (.getfield 22, 3) := by decide +kernel
theorem dX6_setNumber_15 : decode cX6_setNumber 15 = .ok (.aload_n 0, 1) := by decide +kernel
theorem dX6_setNumber_16 : decode cX6_setNumber 16 = .ok (.getfield 10, 3) := by decide +kernel
theorem dX6_setNumber_19 : decode cX6_setNumber 19 = .ok (.invokevirtual 50, 3) := by decide +kernel
theorem dX6_setNumber_22 : decode cX6_setNumber 22 = .ok (.aload_n 0, 1) := by decide +kernel
theorem dX6_setNumber_23 : decode cX6_setNumber 23 = .ok (.getfield 10, 3) := by decide +kernel
theorem dX6_setNumber_26 : decode cX6_setNumber 26 = .ok (.iload_n 1, 1) := by decide +kernel
theorem dX6_setNumber_27 : decode cX6_setNumber 27 = .ok (.invokevirtual 90, 3) := by decide +kernel
theorem dX6_setNumber_30 : decode cX6_setNumber 30 = .ok (.istore_n 3, 1) := by decide +kernel
theorem dX6_setNumber_31 : decode cX6_setNumber 31 = .ok (.aload_n 0, 1) := by decide +kernel
theorem dX6_setNumber_32 : decode cX6_setNumber 32 = .ok (.getfield 10, 3) := by decide +kernel
theorem dX6_setNumber_35 : decode cX6_setNumber 35 = .ok (.iload_n 1, 1) := by decide +kernel
theorem dX6_setNumber_36 : decode cX6_setNumber 36 = .ok (.iload_n 2, 1) := by decide +kernel
theorem dX6_setNumber_37 : decode cX6_setNumber 37 = .ok (.invokevirtual 94, 3) := by decide +kernel
theorem dX6_setNumber_40 : decode cX6_setNumber 40 = .ok (.iload_n 3, 1) := by decide +kernel
theorem dX6_setNumber_41 : decode cX6_setNumber 41 = .ok (.ireturn, 1) := by decide +kernel
theorem dX6_warm_0 : decode cX6_warm 0 = .ok (.aload_n 0, 1) := by decide +kernel
theorem dX6_warm_1 : decode cX6_warm 1 = .ok (.getfield 10, 3) := by decide +kernel
theorem dX6_warm_4 : decode cX6_warm 4 = .ok (.iload_n 1, 1) := by decide +kernel
theorem dX6_warm_5 : decode cX6_warm 5 = .ok (.invokevirtual 74, 3) := by decide +kernel
theorem dX6_warm_8 : decode cX6_warm 8 = .ok (.astore_n 3, 1) := by decide +kernel
theorem dX6_warm_9 : decode cX6_warm 9 = .ok (.aload_n 3, 1) := by decide +kernel
theorem dX6_warm_10 : decode cX6_warm 10 = .ok (.ifnull 14, 3) := by decide +kernel
theorem dX6_warm_13 : decode cX6_warm 13 = .ok (.iload_n 2, 1) := by decide +kernel
theorem dX6_warm_14 : decode cX6_warm 14 = .ok (.ldc 98, 2) := by decide +kernel
theorem dX6_warm_16 : decode cX6_warm 16 = .ok (.ldc 99, 2) := by decide +kernel
theorem dX6_warm_18 : decode cX6_warm 18 = .ok (.invokestatic 40, 3) := by decide +kernel
theorem dX6_warm_21 : decode cX6_warm 21 = .ok (.ifCond .ne 6, 3) := by decide +kernel
theorem dX6_warm_24 : decode cX6_warm 24 = .ok (.ldc 44, 2) := by decide +kernel
theorem dX6_warm_26 : decode cX6_warm 26 = .ok (.ireturn, 1) := by decide +kernel
theorem dX6_warm_27 : decode cX6_warm 27 = .ok (.aload_n 3, 1) := by decide +kernel
theorem dX6_warm_28 : decode cX6_warm 28 = .ok (.aload_n 3, 1) := by decide +kernel
theorem dX6_warm_29 : decode cX6_warm 29 = .ok (.getfield 100, 3) := by decide +kernel
theorem dX6_warm_32 : decode cX6_warm 32 = .ok (.iload_n 2, 1) := by decide +kernel
theorem dX6_warm_33 : decode cX6_warm 33 = .ok (.iadd, 1) := by decide +kernel
theorem dX6_warm_34 : decode cX6_warm 34 = .ok (.invokevirtual 103, 3) := by decide +kernel
theorem dX6_warm_37 : decode cX6_warm 37 = .ok (.istore 4, 2) := by decide +kernel
theorem dX6_warm_39 : decode cX6_warm 39 = .ok (.iload 4, 2) := by decide +kernel
theorem dX6_warm_41 : decode cX6_warm 41 = .ok (.ldc 106, 2) := by decide +kernel
theorem dX6_warm_43 : decode cX6_warm 43 = .ok (.ldc 107, 2) := by decide +kernel
theorem dX6_warm_45 : decode cX6_warm 45 = .ok (.invokestatic 40, 3) := by decide +kernel
theorem dX6_warm_48 : decode cX6_warm 48 = .ok (.ifCond .ne 6, 3) := by decide +kernel
theorem dX6_warm_51 : decode cX6_warm 51 = .ok (.ldc 69, 2) := by decide +kernel
theorem dX6_warm_53 : decode cX6_warm 53 = .ok (.ireturn, 1) := by decide +kernel
theorem dX6_warm_54 : decode cX6_warm 54 = .ok (.aload_n 0, 1) := by decide +kernel
theorem dX6_warm_55 : decode cX6_warm 55 = .ok (.getfield 22, 3) := by decide +kernel
theorem dX6_warm_58 : decode cX6_warm 58 = .ok (.aload_n 0, 1) := by decide +kernel
theorem dX6_warm_59 : decode cX6_warm 59 = .ok (.getfield 10, 3) := by decide +kernel
theorem dX6_warm_62 : decode cX6_warm 62 = .ok (.invokevirtual 50, 3) := by decide +kernel
theorem dX6_warm_65 : decode cX6_warm 65 = .ok (.aload_n 3, 1) := by decide +kernel
theorem dX6_warm_66 : decode cX6_warm 66 = .ok (.iload_n 2, 1) := by decide +kernel
theorem dX6_warm_67 : decode cX6_warm 67 = .ok (.invokevirtual 108, 3) := by decide +kernel
theorem dX6_warm_70 : decode cX6_warm 70 = .ok (.iload 4, 2) := by decide +kernel
theorem dX6_warm_72 : decode cX6_warm 72 = .ok (.ireturn, 1) := by decide +kernel
theorem dX6_service_0 : decode cX6_service 0 = .ok (.aload_n 0, 1) := by decide +kernel
theorem dX6_service_1 : decode cX6_service 1 = .ok (.getfield 10, 3) := by decide +kernel
theorem dX6_service_4 : decode cX6_service 4 = .ok (.iload_n 1, 1) := by decide +kernel
theorem dX6_service_5 : decode cX6_service 5 = .ok (.invokevirtual 74, 3) := by decide +kernel
theorem dX6_service_8 : decode cX6_service 8 = .ok (.astore_n 2, 1) := by decide +kernel
theorem dX6_service_9 : decode cX6_service 9 = .ok (.aload_n 2, 1) := by decide +kernel
theorem dX6_service_10 : decode cX6_service 10 = .ok (.ifnonnull 6, 3) := by decide +kernel
theorem dX6_service_13 : decode cX6_service 13 = .ok (.ldc 44, 2) := by decide +kernel
theorem dX6_service_15 : decode cX6_service 15 = .ok (.ireturn, 1) := by decide +kernel
theorem dX6_service_16 : decode cX6_service 16 = .ok (.aload_n 0, 1) := by decide +kernel
theorem dX6_service_17 : decode cX6_service 17 = .ok (.getfield 22, 3) := by decide +kernel
theorem dX6_service_20 : decode cX6_service 20 = .ok (.aload_n 0, 1) := by decide +kernel
theorem dX6_service_21 : decode cX6_service 21 = .ok (.getfield 10, 3) := by decide +kernel
theorem dX6_service_24 : decode cX6_service 24 = .ok (.invokevirtual 50, 3) := by decide +kernel
theorem dX6_service_27 : decode cX6_service 27 = .ok (.aload_n 2, 1) := by decide +kernel
theorem dX6_service_28 : decode cX6_service 28 = .ok (.getfield 112, 3) := by decide +kernel
theorem dX6_service_31 : decode cX6_service 31 = .ok (.istore_n 3, 1) := by decide +kernel
theorem dX6_service_32 : decode cX6_service 32 = .ok (.aload_n 2, 1) := by decide +kernel
theorem dX6_service_33 : decode cX6_service 33 = .ok (.invokevirtual 115, 3) := by decide +kernel
theorem dX6_service_36 : decode cX6_service 36 = .ok (.iload_n 3, 1) := by decide +kernel
theorem dX6_service_37 : decode cX6_service 37 = .ok (.ireturn, 1) := by decide +kernel
theorem dX6_resetCutout_0 : decode cX6_resetCutout 0 = .ok (.aload_n 0, 1) := by decide +kernel
theorem dX6_resetCutout_1 : decode cX6_resetCutout 1 = .ok (.getfield 10, 3) := by decide +kernel
theorem dX6_resetCutout_4 : decode cX6_resetCutout 4 = .ok (.iload_n 1, 1) := by decide +kernel
theorem dX6_resetCutout_5 : decode cX6_resetCutout 5 = .ok (.invokevirtual 74, 3) := by decide +kernel
theorem dX6_resetCutout_8 : decode cX6_resetCutout 8 = .ok (.astore_n 2, 1) := by decide +kernel
theorem dX6_resetCutout_9 : decode cX6_resetCutout 9 = .ok (.aload_n 2, 1) := by decide +kernel
theorem dX6_resetCutout_10 : decode cX6_resetCutout 10 = .ok (.ifnonnull 6, 3) := by decide +kernel
theorem dX6_resetCutout_13 : decode cX6_resetCutout 13 = .ok (.ldc 44, 2) := by decide +kernel
theorem dX6_resetCutout_15 : decode cX6_resetCutout 15 = .ok (.ireturn, 1) := by decide +kernel
theorem dX6_resetCutout_16 : decode cX6_resetCutout 16 = .ok (.aload_n 2, 1) := by decide +kernel
theorem dX6_resetCutout_17 : decode cX6_resetCutout 17 = .ok (.invokevirtual 118, 3) := by decide +kernel
theorem dX6_resetCutout_20 : decode cX6_resetCutout 20 = .ok (.istore_n 3, 1) := by decide +kernel
theorem dX6_resetCutout_21 : decode cX6_resetCutout 21 = .ok (.aload_n 2, 1) := by decide +kernel
theorem dX6_resetCutout_22 : decode cX6_resetCutout 22 = .ok (.getfield 122, 3) := by decide +kernel
theorem dX6_resetCutout_25 : decode cX6_resetCutout 25 = .ok (.ifCond .eq 15, 3) := by decide +kernel
theorem dX6_resetCutout_28 : decode cX6_resetCutout 28 = .ok (.iload_n 3, 1) := by decide +kernel
theorem dX6_resetCutout_29 : decode cX6_resetCutout 29 = .ok (.aload_n 0, 1) := by decide +kernel
theorem dX6_resetCutout_30 : decode cX6_resetCutout 30 = .ok (.getfield 10, 3) := by decide +kernel
theorem dX6_resetCutout_33 : decode cX6_resetCutout 33 = .ok (.iconst 5, 1) := by decide +kernel
theorem dX6_resetCutout_34 : decode cX6_resetCutout 34 = .ok (.invokevirtual 90, 3) := by decide +kernel
theorem dX6_resetCutout_37 : decode cX6_resetCutout 37 = .ok (.if_icmp .le 6, 3) := by decide +kernel
theorem dX6_resetCutout_40 : decode cX6_resetCutout 40 = .ok (.ldc 69, 2) := by decide +kernel
theorem dX6_resetCutout_42 : decode cX6_resetCutout 42 = .ok (.ireturn, 1) := by decide +kernel
theorem dX6_resetCutout_43 : decode cX6_resetCutout 43 = .ok (.aload_n 0, 1) := by decide +kernel
theorem dX6_resetCutout_44 : decode cX6_resetCutout 44 = .ok (.getfield 22, 3) := by decide +kernel
theorem dX6_resetCutout_47 : decode cX6_resetCutout 47 = .ok (.aload_n 0, 1) := by decide +kernel
theorem dX6_resetCutout_48 : decode cX6_resetCutout 48 = .ok (.getfield 10, 3) := by decide +kernel
theorem dX6_resetCutout_51 : decode cX6_resetCutout 51 = .ok (.invokevirtual 50, 3) := by decide +kernel
theorem dX6_resetCutout_54 : decode cX6_resetCutout 54 = .ok (.aload_n 2, 1) := by decide +kernel
theorem dX6_resetCutout_55 : decode cX6_resetCutout 55 = .ok (.iconst 0, 1) := by decide +kernel
theorem dX6_resetCutout_56 : decode cX6_resetCutout 56 = .ok (.putfield 122, 3) := by decide +kernel
theorem dX6_resetCutout_59 : decode cX6_resetCutout 59 = .ok (.iload_n 3, 1) := by decide +kernel
theorem dX6_resetCutout_60 : decode cX6_resetCutout 60 = .ok (.ireturn, 1) := by decide +kernel
theorem dX6_room_0 : decode cX6_room 0 = .ok (.aload_n 0, 1) := by decide +kernel
theorem dX6_room_1 : decode cX6_room 1 = .ok (.getfield 10, 3) := by decide +kernel
theorem dX6_room_4 : decode cX6_room 4 = .ok (.iload_n 1, 1) := by decide +kernel
theorem dX6_room_5 : decode cX6_room 5 = .ok (.invokevirtual 74, 3) := by decide +kernel
theorem dX6_room_8 : decode cX6_room 8 = .ok (.astore_n 3, 1) := by decide +kernel
theorem dX6_room_9 : decode cX6_room 9 = .ok (.aload_n 3, 1) := by decide +kernel
theorem dX6_room_10 : decode cX6_room 10 = .ok (.ifnonnull 8, 3) := by decide +kernel
theorem dX6_room_13 : decode cX6_room 13 = .ok (.ldc 44, 2) := by decide +kernel
theorem dX6_room_15 : decode cX6_room 15 = .ok (.goto 8, 3) := by decide +kernel
theorem dX6_room_18 : decode cX6_room 18 = .ok (.aload_n 3, 1) := by decide +kernel
theorem dX6_room_19 : decode cX6_room 19 = .ok (.iload_n 2, 1) := by decide +kernel
theorem dX6_room_20 : decode cX6_room 20 = .ok (.invokevirtual 126, 3) := by decide +kernel
theorem dX6_room_23 : decode cX6_room 23 = .ok (.ireturn, 1) := by decide +kernel
theorem dX6_book_0 : decode cX6_book 0 = .ok (.aload_n 0, 1) := by decide +kernel
theorem dX6_book_1 : decode cX6_book 1 = .ok (.getfield 10, 3) := by decide +kernel
theorem dX6_book_4 : decode cX6_book 4 = .ok (.iload_n 1, 1) := by decide +kernel
theorem dX6_book_5 : decode cX6_book 5 = .ok (.invokevirtual 74, 3) := by decide +kernel
theorem dX6_book_8 : decode cX6_book 8 = .ok (.astore_n 3, 1) := by decide +kernel
theorem dX6_book_9 : decode cX6_book 9 = .ok (.aload_n 3, 1) := by decide +kernel
theorem dX6_book_10 : decode cX6_book 10 = .ok (.ifnonnull 8, 3) := by decide +kernel
theorem dX6_book_13 : decode cX6_book 13 = .ok (.ldc 44, 2) := by decide +kernel
theorem dX6_book_15 : decode cX6_book 15 = .ok (.goto 11, 3) := by decide +kernel
theorem dX6_book_18 : decode cX6_book 18 = .ok (.aload_n 3, 1) := by decide +kernel
theorem dX6_book_19 : decode cX6_book 19 = .ok (.getfield 129, 3) := by decide +kernel
theorem dX6_book_22 : decode cX6_book 22 = .ok (.iload_n 2, 1) := by decide +kernel
theorem dX6_book_23 : decode cX6_book 23 = .ok (.invokevirtual 133, 3) := by decide +kernel
theorem dX6_book_26 : decode cX6_book 26 = .ok (.ireturn, 1) := by decide +kernel
theorem dX6_link_0 : decode cX6_link 0 = .ok (.aload_n 0, 1) := by decide +kernel
theorem dX6_link_1 : decode cX6_link 1 = .ok (.getfield 10, 3) := by decide +kernel
theorem dX6_link_4 : decode cX6_link 4 = .ok (.iload_n 1, 1) := by decide +kernel
theorem dX6_link_5 : decode cX6_link 5 = .ok (.iload_n 2, 1) := by decide +kernel
theorem dX6_link_6 : decode cX6_link 6 = .ok (.invokevirtual 58, 3) := by decide +kernel
theorem dX6_link_9 : decode cX6_link 9 = .ok (.ifCond .eq 15, 3) := by decide +kernel
theorem dX6_link_12 : decode cX6_link 12 = .ok (.aload_n 0, 1) := by decide +kernel
theorem dX6_link_13 : decode cX6_link 13 = .ok (.getfield 10, 3) := by decide +kernel
theorem dX6_link_16 : decode cX6_link 16 = .ok (.iload_n 1, 1) := by decide +kernel
theorem dX6_link_17 : decode cX6_link 17 = .ok (.iload_n 2, 1) := by decide +kernel
theorem dX6_link_18 : decode cX6_link 18 = .ok (.invokevirtual 62, 3) := by decide +kernel
theorem dX6_link_21 : decode cX6_link 21 = .ok (.goto 5, 3) := by decide +kernel
theorem dX6_link_24 : decode cX6_link 24 = .ok (.ldc 44, 2) := by decide +kernel
theorem dX6_link_26 : decode cX6_link 26 = .ok (.ireturn, 1) := by decide +kernel
theorem dX6_count_0 : decode cX6_count 0 = .ok (.iload_n 1, 1) := by decide +kernel
theorem dX6_count_1 : decode cX6_count 1 = .ok (.iconst 0, 1) := by decide +kernel
theorem dX6_count_2 : decode cX6_count 2 = .ok (.bipush 6, 2) := by decide +kernel
theorem dX6_count_4 : decode cX6_count 4 = .ok (.invokestatic 40, 3) := by decide +kernel
theorem dX6_count_7 : decode cX6_count 7 = .ok (.ifCond .eq 12, 3) := by decide +kernel
theorem dX6_count_10 : decode cX6_count 10 = .ok (.aload_n 0, 1) := by decide +kernel
theorem dX6_count_11 : decode cX6_count 11 = .ok (.getfield 10, 3) := by decide +kernel
theorem dX6_count_14 : decode cX6_count 14 = .ok (.iload_n 1, 1) := by decide +kernel
theorem dX6_count_15 : decode cX6_count 15 = .ok (.invokevirtual 90, 3) := by decide +kernel
theorem dX6_count_18 : decode cX6_count 18 = .ok (.ireturn, 1) := by decide +kernel
theorem dX6_count_19 : decode cX6_count 19 = .ok (.iload_n 1, 1) := by decide +kernel
theorem dX6_count_20 : decode cX6_count 20 = .ok (.tableswitch 103 7 13 #[44, 52, 60, 71, 79, 87, 95], 44) := by decide +kernel
theorem dX6_count_64 : decode cX6_count 64 = .ok (.aload_n 0, 1) := by decide +kernel
theorem dX6_count_65 : decode cX6_count 65 = .ok (.getfield 10, 3) := by decide +kernel
theorem dX6_count_68 : decode cX6_count 68 = .ok (.getfield 45, 3) := by decide +kernel
theorem dX6_count_71 : decode cX6_count 71 = .ok (.ireturn, 1) := by decide +kernel
theorem dX6_count_72 : decode cX6_count 72 = .ok (.aload_n 0, 1) := by decide +kernel
theorem dX6_count_73 : decode cX6_count 73 = .ok (.getfield 10, 3) := by decide +kernel
theorem dX6_count_76 : decode cX6_count 76 = .ok (.getfield 138, 3) := by decide +kernel
theorem dX6_count_79 : decode cX6_count 79 = .ok (.ireturn, 1) := by decide +kernel
theorem dX6_count_80 : decode cX6_count 80 = .ok (.aload_n 0, 1) := by decide +kernel
theorem dX6_count_81 : decode cX6_count 81 = .ok (.getfield 10, 3) := by decide +kernel
theorem dX6_count_84 : decode cX6_count 84 = .ok (.getfield 141, 3) := by decide +kernel
theorem dX6_count_87 : decode cX6_count 87 = .ok (.getfield 144, 3) := by decide +kernel
theorem dX6_count_90 : decode cX6_count 90 = .ok (.ireturn, 1) := by decide +kernel
theorem dX6_count_91 : decode cX6_count 91 = .ok (.aload_n 0, 1) := by decide +kernel
theorem dX6_count_92 : decode cX6_count 92 = .ok (.getfield 10, 3) := by decide +kernel
theorem dX6_count_95 : decode cX6_count 95 = .ok (.invokevirtual 147, 3) := by decide +kernel
theorem dX6_count_98 : decode cX6_count 98 = .ok (.ireturn, 1) := by decide +kernel
theorem dX6_count_99 : decode cX6_count 99 = .ok (.aload_n 0, 1) := by decide +kernel
theorem dX6_count_100 : decode cX6_count 100 = .ok (.getfield 10, 3) := by decide +kernel
theorem dX6_count_103 : decode cX6_count 103 = .ok (.invokevirtual 150, 3) := by decide +kernel
theorem dX6_count_106 : decode cX6_count 106 = .ok (.ireturn, 1) := by decide +kernel
theorem dX6_count_107 : decode cX6_count 107 = .ok (.aload_n 0, 1) := by decide +kernel
theorem dX6_count_108 : decode cX6_count 108 = .ok (.getfield 29, 3) := by decide +kernel
theorem dX6_count_111 : decode cX6_count 111 = .ok (.getfield 153, 3) := by decide +kernel
theorem dX6_count_114 : decode cX6_count 114 = .ok (.ireturn, 1) := by decide +kernel
theorem dX6_count_115 : decode cX6_count 115 = .ok (.aload_n 0, 1) := by decide +kernel
theorem dX6_count_116 : decode cX6_count 116 = .ok (.getfield 22, 3) := by decide +kernel
theorem dX6_count_119 : decode cX6_count 119 = .ok (.getfield 156, 3) := by decide +kernel
theorem dX6_count_122 : decode cX6_count 122 = .ok (.ireturn, 1) := by decide +kernel
theorem dX6_count_123 : decode cX6_count 123 = .ok (.ldc 44, 2) := by decide +kernel
theorem dX6_count_125 : decode cX6_count 125 = .ok (.ireturn, 1) := by decide +kernel
theorem dX6_appendCharacter_0 : decode cX6_appendCharacter 0 = .ok (.iload_n 1, 1) := by decide +kernel
theorem dX6_appendCharacter_1 : decode cX6_appendCharacter 1 = .ok (.iconst 0, 1) := by decide +kernel
theorem dX6_appendCharacter_2 : decode cX6_appendCharacter 2 = .ok (.sipush 255, 3) := by decide +kernel
theorem dX6_appendCharacter_5 : decode cX6_appendCharacter 5 = .ok (.invokestatic 40, 3) := by decide +kernel
theorem dX6_appendCharacter_8 : decode cX6_appendCharacter 8 = .ok (.ifCond .ne 6, 3) := by decide +kernel
theorem dX6_appendCharacter_11 : decode cX6_appendCharacter 11 = .ok (.ldc 44, 2) := by decide +kernel
theorem dX6_appendCharacter_13 : decode cX6_appendCharacter 13 = .ok (.ireturn, 1) := by decide +kernel
theorem dX6_appendCharacter_14 : decode cX6_appendCharacter 14 = .ok (.aload_n 0, 1) := by decide +kernel
theorem dX6_appendCharacter_15 : decode cX6_appendCharacter 15 = .ok (.getfield 29, 3) := by decide +kernel
theorem dX6_appendCharacter_18 : decode cX6_appendCharacter 18 = .ok (.iload_n 1, 1) := by decide +kernel
theorem dX6_appendCharacter_19 : decode cX6_appendCharacter 19 = .ok (.invokevirtual 157, 3) := by decide +kernel
theorem dX6_appendCharacter_22 : decode cX6_appendCharacter 22 = .ok (.ifCond .eq 13, 3) := by decide +kernel
theorem dX6_appendCharacter_25 : decode cX6_appendCharacter 25 = .ok (.aload_n 0, 1) := by decide +kernel
theorem dX6_appendCharacter_26 : decode cX6_appendCharacter 26 = .ok (.getfield 29, 3) := by decide +kernel
theorem dX6_appendCharacter_29 : decode cX6_appendCharacter 29 = .ok (.getfield 153, 3) := by decide +kernel
theorem dX6_appendCharacter_32 : decode cX6_appendCharacter 32 = .ok (.goto 5, 3) := by decide +kernel
theorem dX6_appendCharacter_35 : decode cX6_appendCharacter 35 = .ok (.ldc 49, 2) := by decide +kernel
theorem dX6_appendCharacter_37 : decode cX6_appendCharacter 37 = .ok (.ireturn, 1) := by decide +kernel
theorem dX6_clearText_0 : decode cX6_clearText 0 = .ok (.aload_n 0, 1) := by decide +kernel
theorem dX6_clearText_1 : decode cX6_clearText 1 = .ok (.getfield 29, 3) := by decide +kernel
theorem dX6_clearText_4 : decode cX6_clearText 4 = .ok (.getfield 153, 3) := by decide +kernel
theorem dX6_clearText_7 : decode cX6_clearText 7 = .ok (.istore_n 1, 1) := by decide +kernel
theorem dX6_clearText_8 : decode cX6_clearText 8 = .ok (.aload_n 0, 1) := by decide +kernel
theorem dX6_clearText_9 : decode cX6_clearText 9 = .ok (.getfield 29, 3) := by decide +kernel
theorem dX6_clearText_12 : decode cX6_clearText 12 = .ok (.iconst 0, 1) := by decide +kernel
theorem dX6_clearText_13 : decode cX6_clearText 13 = .ok (.putfield 153, 3) := by decide +kernel
theorem dX6_clearText_16 : decode cX6_clearText 16 = .ok (.iload_n 1, 1) := by decide +kernel
theorem dX6_clearText_17 : decode cX6_clearText 17 = .ok (.ireturn, 1) := by decide +kernel
theorem dX6_load_0 : decode cX6_load 0 = .ok (.aload_n 0, 1) := by decide +kernel
theorem dX6_load_1 : decode cX6_load 1 = .ok (.getfield 29, 3) := by decide +kernel
theorem dX6_load_4 : decode cX6_load 4 = .ok (.aload_n 0, 1) := by decide +kernel
theorem dX6_load_5 : decode cX6_load 5 = .ok (.getfield 36, 3) := by decide +kernel
theorem dX6_load_8 : decode cX6_load 8 = .ok (.invokevirtual 161, 3) := by decide +kernel
theorem dX6_load_11 : decode cX6_load 11 = .ok (.istore_n 1, 1) := by decide +kernel
theorem dX6_load_12 : decode cX6_load 12 = .ok (.iload_n 1, 1) := by decide +kernel
theorem dX6_load_13 : decode cX6_load 13 = .ok (.iconst (-1), 1) := by decide +kernel
theorem dX6_load_14 : decode cX6_load 14 = .ok (.if_icmp .eq 8, 3) := by decide +kernel
theorem dX6_load_17 : decode cX6_load 17 = .ok (.bipush (-10), 2) := by decide +kernel
theorem dX6_load_19 : decode cX6_load 19 = .ok (.iload_n 1, 1) := by decide +kernel
theorem dX6_load_20 : decode cX6_load 20 = .ok (.isub, 1) := by decide +kernel
theorem dX6_load_21 : decode cX6_load 21 = .ok (.ireturn, 1) := by decide +kernel
theorem dX6_load_22 : decode cX6_load 22 = .ok (.aload_n 0, 1) := by decide +kernel
theorem dX6_load_23 : decode cX6_load 23 = .ok (.getfield 22, 3) := by decide +kernel
theorem dX6_load_26 : decode cX6_load 26 = .ok (.aload_n 0, 1) := by decide +kernel
theorem dX6_load_27 : decode cX6_load 27 = .ok (.getfield 10, 3) := by decide +kernel
theorem dX6_load_30 : decode cX6_load 30 = .ok (.invokevirtual 50, 3) := by decide +kernel
theorem dX6_load_33 : decode cX6_load 33 = .ok (.aload_n 0, 1) := by decide +kernel
theorem dX6_load_34 : decode cX6_load 34 = .ok (.getfield 10, 3) := by decide +kernel
theorem dX6_load_37 : decode cX6_load 37 = .ok (.getfield 141, 3) := by decide +kernel
theorem dX6_load_40 : decode cX6_load 40 = .ok (.aload_n 0, 1) := by decide +kernel
theorem dX6_load_41 : decode cX6_load 41 = .ok (.getfield 36, 3) := by decide +kernel
theorem dX6_load_44 : decode cX6_load 44 = .ok (.invokevirtual 165, 3) := by decide +kernel
theorem dX6_load_47 : decode cX6_load 47 = .ok (.aload_n 0, 1) := by decide +kernel
theorem dX6_load_48 : decode cX6_load 48 = .ok (.getfield 29, 3) := by decide +kernel
theorem dX6_load_51 : decode cX6_load 51 = .ok (.iconst 0, 1) := by decide +kernel
theorem dX6_load_52 : decode cX6_load 52 = .ok (.putfield 153, 3) := by decide +kernel
theorem dX6_load_55 : decode cX6_load 55 = .ok (.aload_n 0, 1) := by decide +kernel
theorem dX6_load_56 : decode cX6_load 56 = .ok (.getfield 10, 3) := by decide +kernel
theorem dX6_load_59 : decode cX6_load 59 = .ok (.getfield 141, 3) := by decide +kernel
theorem dX6_load_62 : decode cX6_load 62 = .ok (.getfield 144, 3) := by decide +kernel
theorem dX6_load_65 : decode cX6_load 65 = .ok (.ireturn, 1) := by decide +kernel
theorem dX6_outside_0 : decode cX6_outside 0 = .ok (.iload_n 1, 1) := by decide +kernel
theorem dX6_outside_1 : decode cX6_outside 1 = .ok (.iconst 0, 1) := by decide +kernel
theorem dX6_outside_2 : decode cX6_outside 2 = .ok (.sipush 20000, 3) := by decide +kernel
theorem dX6_outside_5 : decode cX6_outside 5 = .ok (.invokestatic 40, 3) := by decide +kernel
theorem dX6_outside_8 : decode cX6_outside 8 = .ok (.ifCond .eq 17, 3) := by decide +kernel
theorem dX6_outside_11 : decode cX6_outside 11 = .ok (.aload_n 0, 1) := by decide +kernel
theorem dX6_outside_12 : decode cX6_outside 12 = .ok (.getfield 10, 3) := by decide +kernel
theorem dX6_outside_15 : decode cX6_outside 15 = .ok (.getfield 141, 3) := by decide +kernel
theorem dX6_outside_18 : decode cX6_outside 18 = .ok (.iload_n 1, 1) := by decide +kernel
theorem dX6_outside_19 : decode cX6_outside 19 = .ok (.invokevirtual 169, 3) := by decide +kernel
theorem dX6_outside_22 : decode cX6_outside 22 = .ok (.goto 5, 3) := by decide +kernel
theorem dX6_outside_25 : decode cX6_outside 25 = .ok (.ldc 44, 2) := by decide +kernel
theorem dX6_outside_27 : decode cX6_outside 27 = .ok (.ireturn, 1) := by decide +kernel
theorem dX6_pass_0 : decode cX6_pass 0 = .ok (.iload_n 1, 1) := by decide +kernel
theorem dX6_pass_1 : decode cX6_pass 1 = .ok (.iconst 1, 1) := by decide +kernel
theorem dX6_pass_2 : decode cX6_pass 2 = .ok (.sipush 500, 3) := by decide +kernel
theorem dX6_pass_5 : decode cX6_pass 5 = .ok (.invokestatic 40, 3) := by decide +kernel
theorem dX6_pass_8 : decode cX6_pass 8 = .ok (.ifCond .ne 6, 3) := by decide +kernel
theorem dX6_pass_11 : decode cX6_pass 11 = .ok (.ldc 44, 2) := by decide +kernel
theorem dX6_pass_13 : decode cX6_pass 13 = .ok (.ireturn, 1) := by decide +kernel
theorem dX6_pass_14 : decode cX6_pass 14 = .ok (.aload_n 0, 1) := by decide +kernel
theorem dX6_pass_15 : decode cX6_pass 15 = .ok (.getfield 10, 3) := by decide +kernel
theorem dX6_pass_18 : decode cX6_pass 18 = .ok (.getfield 45, 3) := by decide +kernel
theorem dX6_pass_21 : decode cX6_pass 21 = .ok (.ifCond .ne 6, 3) := by decide +kernel
theorem dX6_pass_24 : decode cX6_pass 24 = .ok (.ldc 69, 2) := by decide +kernel
theorem dX6_pass_26 : decode cX6_pass 26 = .ok (.ireturn, 1) := by decide +kernel
theorem dX6_pass_27 : decode cX6_pass 27 = .ok (.iload_n 1, 1) := by decide +kernel
theorem dX6_pass_28 : decode cX6_pass 28 = .ok (.sipush 20000, 3) := by decide +kernel
theorem dX6_pass_31 : decode cX6_pass 31 = .ok (.aload_n 0, 1) := by decide +kernel
theorem dX6_pass_32 : decode cX6_pass 32 = .ok (.getfield 10, 3) := by decide +kernel
theorem dX6_pass_35 : decode cX6_pass 35 = .ok (.getfield 138, 3) := by decide +kernel
theorem dX6_pass_38 : decode cX6_pass 38 = .ok (.isub, 1) := by decide +kernel
theorem dX6_pass_39 : decode cX6_pass 39 = .ok (.if_icmp .le 6, 3) := by decide +kernel
theorem dX6_pass_42 : decode cX6_pass 42 = .ok (.ldc 49, 2) := by decide +kernel
theorem dX6_pass_44 : decode cX6_pass 44 = .ok (.ireturn, 1) := by decide +kernel
theorem dX6_pass_45 : decode cX6_pass 45 = .ok (.aload_n 0, 1) := by decide +kernel
theorem dX6_pass_46 : decode cX6_pass 46 = .ok (.getfield 22, 3) := by decide +kernel
theorem dX6_pass_49 : decode cX6_pass 49 = .ok (.aload_n 0, 1) := by decide +kernel
theorem dX6_pass_50 : decode cX6_pass 50 = .ok (.getfield 10, 3) := by decide +kernel
theorem dX6_pass_53 : decode cX6_pass 53 = .ok (.invokevirtual 50, 3) := by decide +kernel
theorem dX6_pass_56 : decode cX6_pass 56 = .ok (.aload_n 0, 1) := by decide +kernel
theorem dX6_pass_57 : decode cX6_pass 57 = .ok (.getfield 10, 3) := by decide +kernel
theorem dX6_pass_60 : decode cX6_pass 60 = .ok (.iload_n 1, 1) := by decide +kernel
theorem dX6_pass_61 : decode cX6_pass 61 = .ok (.invokevirtual 172, 3) := by decide +kernel
theorem dX6_pass_64 : decode cX6_pass 64 = .ok (.ireturn, 1) := by decide +kernel
theorem dX6_minutesToSuspect_0 : decode cX6_minutesToSuspect 0 = .ok (.aload_n 0, 1) := by decide +kernel
theorem dX6_minutesToSuspect_1 : decode cX6_minutesToSuspect 1 = .ok (.getfield 16, 3) := by decide +kernel
theorem dX6_minutesToSuspect_4 : decode cX6_minutesToSuspect 4 = .ok (.aload_n 0, 1) := by decide +kernel
theorem dX6_minutesToSuspect_5 : decode cX6_minutesToSuspect 5 = .ok (.getfield 10, 3) := by decide +kernel
theorem dX6_minutesToSuspect_8 : decode cX6_minutesToSuspect 8 = .ok (.invokevirtual 175, 3) := by decide +kernel
theorem dX6_minutesToSuspect_11 : decode cX6_minutesToSuspect 11 = .ok (.aload_n 0, 1) := by decide +kernel
theorem dX6_minutesToSuspect_12 : decode cX6_minutesToSuspect 12 = .ok (.getfield 16, 3) := by decide +kernel
theorem dX6_minutesToSuspect_15 : decode cX6_minutesToSuspect 15 = .ok (.iload_n 1, 1) := by decide +kernel
theorem dX6_minutesToSuspect_16 : decode cX6_minutesToSuspect 16 = .ok (.invokevirtual 74, 3) := by decide +kernel
theorem dX6_minutesToSuspect_19 : decode cX6_minutesToSuspect 19 = .ok (.astore_n 2, 1) := by decide +kernel
theorem dX6_minutesToSuspect_20 : decode cX6_minutesToSuspect 20 = .ok (.aload_n 2, 1) := by decide +kernel
theorem dX6_minutesToSuspect_21 : decode cX6_minutesToSuspect 21 = .ok (.ifnonnull 6, 3) := by decide +kernel
theorem dX6_minutesToSuspect_24 : decode cX6_minutesToSuspect 24 = .ok (.ldc 44, 2) := by decide +kernel
theorem dX6_minutesToSuspect_26 : decode cX6_minutesToSuspect 26 = .ok (.ireturn, 1) := by decide +kernel
theorem dX6_minutesToSuspect_27 : decode cX6_minutesToSuspect 27 = .ok (.iconst 0, 1) := by decide +kernel
theorem dX6_minutesToSuspect_28 : decode cX6_minutesToSuspect 28 = .ok (.istore_n 3, 1) := by decide +kernel
theorem dX6_minutesToSuspect_29 : decode cX6_minutesToSuspect 29 = .ok (.iload_n 3, 1) := by decide +kernel
theorem dX6_minutesToSuspect_30 : decode cX6_minutesToSuspect 30 = .ok (.sipush 1000, 3) := by decide +kernel
theorem dX6_minutesToSuspect_33 : decode cX6_minutesToSuspect 33 = .ok (.if_icmp .ge 30, 3) := by decide +kernel
theorem dX6_minutesToSuspect_36 : decode cX6_minutesToSuspect 36 = .ok (.aload_n 0, 1) := by decide +kernel
theorem dX6_minutesToSuspect_37 : decode cX6_minutesToSuspect 37 = .ok (.getfield 16, 3) := by decide +kernel
theorem dX6_minutesToSuspect_40 : decode cX6_minutesToSuspect 40 = .ok (.aload_n 2, 1) := by decide +kernel
theorem dX6_minutesToSuspect_41 : decode cX6_minutesToSuspect 41 = .ok (.invokevirtual 177, 3) := by decide +kernel
theorem dX6_minutesToSuspect_44 : decode cX6_minutesToSuspect 44 = .ok (.ifCond .eq 5, 3) := by decide +kernel
theorem dX6_minutesToSuspect_47 : decode cX6_minutesToSuspect 47 = .ok (.iload_n 3, 1) := by decide +kernel
theorem dX6_minutesToSuspect_48 : decode cX6_minutesToSuspect 48 = .ok (.ireturn, 1) := by decide +kernel
theorem dX6_minutesToSuspect_49 : decode cX6_minutesToSuspect 49 = .ok (.aload_n 0, 1) := by decide +kernel
theorem dX6_minutesToSuspect_50 : decode cX6_minutesToSuspect 50 = .ok (.getfield 16, 3) := by decide +kernel
theorem dX6_minutesToSuspect_53 : decode cX6_minutesToSuspect 53 = .ok (.invokevirtual 181, 3) := by decide +kernel
theorem dX6_minutesToSuspect_56 : decode cX6_minutesToSuspect 56 = .ok (.pop, 1) := by decide +kernel
theorem dX6_minutesToSuspect_57 : decode cX6_minutesToSuspect 57 = .ok (.iinc 3 1, 3) := by decide +kernel
theorem dX6_minutesToSuspect_60 : decode cX6_minutesToSuspect 60 = .ok (.goto (-31), 3) := by decide +kernel
theorem dX6_minutesToSuspect_63 : decode cX6_minutesToSuspect 63 = .ok (.aload_n 0, 1) := by decide +kernel
theorem dX6_minutesToSuspect_64 : decode cX6_minutesToSuspect 64 = .ok (.getfield 16, 3) := by decide +kernel
theorem dX6_minutesToSuspect_67 : decode cX6_minutesToSuspect 67 = .ok (.aload_n 2, 1) := by decide +kernel
theorem dX6_minutesToSuspect_68 : decode cX6_minutesToSuspect 68 = .ok (.invokevirtual 177, 3) := by decide +kernel
theorem dX6_minutesToSuspect_71 : decode cX6_minutesToSuspect 71 = .ok (.ifCond .eq 9, 3) := by decide +kernel
theorem dX6_minutesToSuspect_74 : decode cX6_minutesToSuspect 74 = .ok (.sipush 1000, 3) := by decide +kernel
theorem dX6_minutesToSuspect_77 : decode cX6_minutesToSuspect 77 = .ok (.goto 5, 3) := by decide +kernel
theorem dX6_minutesToSuspect_80 : decode cX6_minutesToSuspect 80 = .ok (.ldc 184, 2) := by decide +kernel
theorem dX6_minutesToSuspect_82 : decode cX6_minutesToSuspect 82 = .ok (.ireturn, 1) := by decide +kernel
theorem dX6_heatIn_0 : decode cX6_heatIn 0 = .ok (.iload_n 1, 1) := by decide +kernel
theorem dX6_heatIn_1 : decode cX6_heatIn 1 = .ok (.iconst 1, 1) := by decide +kernel
theorem dX6_heatIn_2 : decode cX6_heatIn 2 = .ok (.sipush 1000, 3) := by decide +kernel
theorem dX6_heatIn_5 : decode cX6_heatIn 5 = .ok (.invokestatic 40, 3) := by decide +kernel
theorem dX6_heatIn_8 : decode cX6_heatIn 8 = .ok (.ifCond .ne 6, 3) := by decide +kernel
theorem dX6_heatIn_11 : decode cX6_heatIn 11 = .ok (.ldc 44, 2) := by decide +kernel
theorem dX6_heatIn_13 : decode cX6_heatIn 13 = .ok (.ireturn, 1) := by decide +kernel
theorem dX6_heatIn_14 : decode cX6_heatIn 14 = .ok (.aload_n 0, 1) := by decide +kernel
theorem dX6_heatIn_15 : decode cX6_heatIn 15 = .ok (.getfield 16, 3) := by decide +kernel
theorem dX6_heatIn_18 : decode cX6_heatIn 18 = .ok (.aload_n 0, 1) := by decide +kernel
theorem dX6_heatIn_19 : decode cX6_heatIn 19 = .ok (.getfield 10, 3) := by decide +kernel
theorem dX6_heatIn_22 : decode cX6_heatIn 22 = .ok (.invokevirtual 175, 3) := by decide +kernel
theorem dX6_heatIn_25 : decode cX6_heatIn 25 = .ok (.aload_n 0, 1) := by decide +kernel
theorem dX6_heatIn_26 : decode cX6_heatIn 26 = .ok (.getfield 16, 3) := by decide +kernel
theorem dX6_heatIn_29 : decode cX6_heatIn 29 = .ok (.iload_n 1, 1) := by decide +kernel
theorem dX6_heatIn_30 : decode cX6_heatIn 30 = .ok (.invokevirtual 172, 3) := by decide +kernel
theorem dX6_heatIn_33 : decode cX6_heatIn 33 = .ok (.pop, 1) := by decide +kernel
theorem dX6_heatIn_34 : decode cX6_heatIn 34 = .ok (.aload_n 0, 1) := by decide +kernel
theorem dX6_heatIn_35 : decode cX6_heatIn 35 = .ok (.getfield 16, 3) := by decide +kernel
theorem dX6_heatIn_38 : decode cX6_heatIn 38 = .ok (.invokevirtual 185, 3) := by decide +kernel
theorem dX6_heatIn_41 : decode cX6_heatIn 41 = .ok (.aload_n 0, 1) := by decide +kernel
theorem dX6_heatIn_42 : decode cX6_heatIn 42 = .ok (.getfield 10, 3) := by decide +kernel
theorem dX6_heatIn_45 : decode cX6_heatIn 45 = .ok (.invokevirtual 185, 3) := by decide +kernel
theorem dX6_heatIn_48 : decode cX6_heatIn 48 = .ok (.isub, 1) := by decide +kernel
theorem dX6_heatIn_49 : decode cX6_heatIn 49 = .ok (.ireturn, 1) := by decide +kernel
theorem dX6_finesWith_0 : decode cX6_finesWith 0 = .ok (.aload_n 0, 1) := by decide +kernel
theorem dX6_finesWith_1 : decode cX6_finesWith 1 = .ok (.iload_n 1, 1) := by decide +kernel
theorem dX6_finesWith_2 : decode cX6_finesWith 2 = .ok (.iload_n 2, 1) := by decide +kernel
theorem dX6_finesWith_3 : decode cX6_finesWith 3 = .ok (.invokevirtual 188, 3) := by decide +kernel
theorem dX6_finesWith_6 : decode cX6_finesWith 6 = .ok (.astore 4, 2) := by decide +kernel
theorem dX6_finesWith_8 : decode cX6_finesWith 8 = .ok (.aload 4, 2) := by decide +kernel
theorem dX6_finesWith_10 : decode cX6_finesWith 10 = .ok (.ifnull 26, 3) := by decide +kernel
theorem dX6_finesWith_13 : decode cX6_finesWith 13 = .ok (.iload_n 2, 1) := by decide +kernel
theorem dX6_finesWith_14 : decode cX6_finesWith 14 = .ok (.bipush 100, 2) := by decide +kernel
theorem dX6_finesWith_16 : decode cX6_finesWith 16 = .ok (.sipush 5000, 3) := by decide +kernel
theorem dX6_finesWith_19 : decode cX6_finesWith 19 = .ok (.invokestatic 40, 3) := by decide +kernel
theorem dX6_finesWith_22 : decode cX6_finesWith 22 = .ok (.ifCond .eq 14, 3) := by decide +kernel
theorem dX6_finesWith_25 : decode cX6_finesWith 25 = .ok (.iload_n 3, 1) := by decide +kernel
theorem dX6_finesWith_26 : decode cX6_finesWith 26 = .ok (.iconst 1, 1) := by decide +kernel
theorem dX6_finesWith_27 : decode cX6_finesWith 27 = .ok (.sipush 1000, 3) := by decide +kernel
theorem dX6_finesWith_30 : decode cX6_finesWith 30 = .ok (.invokestatic 40, 3) := by decide +kernel
theorem dX6_finesWith_33 : decode cX6_finesWith 33 = .ok (.ifCond .ne 6, 3) := by decide +kernel
theorem dX6_finesWith_36 : decode cX6_finesWith 36 = .ok (.ldc 44, 2) := by decide +kernel
theorem dX6_finesWith_38 : decode cX6_finesWith 38 = .ok (.ireturn, 1) := by decide +kernel
theorem dX6_finesWith_39 : decode cX6_finesWith 39 = .ok (.aload 4, 2) := by decide +kernel
theorem dX6_finesWith_41 : decode cX6_finesWith 41 = .ok (.getfield 192, 3) := by decide +kernel
theorem dX6_finesWith_44 : decode cX6_finesWith 44 = .ok (.istore 5, 2) := by decide +kernel
theorem dX6_finesWith_46 : decode cX6_finesWith 46 = .ok (.aload_n 0, 1) := by decide +kernel
theorem dX6_finesWith_47 : decode cX6_finesWith 47 = .ok (.getfield 16, 3) := by decide +kernel
theorem dX6_finesWith_50 : decode cX6_finesWith 50 = .ok (.iload_n 3, 1) := by decide +kernel
theorem dX6_finesWith_51 : decode cX6_finesWith 51 = .ok (.invokevirtual 172, 3) := by decide +kernel
theorem dX6_finesWith_54 : decode cX6_finesWith 54 = .ok (.pop, 1) := by decide +kernel
theorem dX6_finesWith_55 : decode cX6_finesWith 55 = .ok (.aload 4, 2) := by decide +kernel
theorem dX6_finesWith_57 : decode cX6_finesWith 57 = .ok (.getfield 192, 3) := by decide +kernel
theorem dX6_finesWith_60 : decode cX6_finesWith 60 = .ok (.iload 5, 2) := by decide +kernel
theorem dX6_finesWith_62 : decode cX6_finesWith 62 = .ok (.isub, 1) := by decide +kernel
theorem dX6_finesWith_63 : decode cX6_finesWith 63 = .ok (.ireturn, 1) := by decide +kernel
theorem dX6_quietBand_0 : decode cX6_quietBand 0 = .ok (.aload_n 0, 1) := by decide +kernel
theorem dX6_quietBand_1 : decode cX6_quietBand 1 = .ok (.getfield 10, 3) := by decide +kernel
theorem dX6_quietBand_4 : decode cX6_quietBand 4 = .ok (.iload_n 1, 1) := by decide +kernel
theorem dX6_quietBand_5 : decode cX6_quietBand 5 = .ok (.invokevirtual 74, 3) := by decide +kernel
theorem dX6_quietBand_8 : decode cX6_quietBand 8 = .ok (.ifnull 14, 3) := by decide +kernel
theorem dX6_quietBand_11 : decode cX6_quietBand 11 = .ok (.iload_n 2, 1) := by decide +kernel
theorem dX6_quietBand_12 : decode cX6_quietBand 12 = .ok (.iconst 1, 1) := by decide +kernel
theorem dX6_quietBand_13 : decode cX6_quietBand 13 = .ok (.sipush 300, 3) := by decide +kernel
theorem dX6_quietBand_16 : decode cX6_quietBand 16 = .ok (.invokestatic 40, 3) := by decide +kernel
theorem dX6_quietBand_19 : decode cX6_quietBand 19 = .ok (.ifCond .ne 6, 3) := by decide +kernel
theorem dX6_quietBand_22 : decode cX6_quietBand 22 = .ok (.ldc 44, 2) := by decide +kernel
theorem dX6_quietBand_24 : decode cX6_quietBand 24 = .ok (.ireturn, 1) := by decide +kernel
theorem dX6_quietBand_25 : decode cX6_quietBand 25 = .ok (.bipush 100, 2) := by decide +kernel
theorem dX6_quietBand_27 : decode cX6_quietBand 27 = .ok (.istore_n 3, 1) := by decide +kernel
theorem dX6_quietBand_28 : decode cX6_quietBand 28 = .ok (.iload_n 3, 1) := by decide +kernel
theorem dX6_quietBand_29 : decode cX6_quietBand 29 = .ok (.sipush 5000, 3) := by decide +kernel
theorem dX6_quietBand_32 : decode cX6_quietBand 32 = .ok (.if_icmp .gt 25, 3) := by decide +kernel
theorem dX6_quietBand_35 : decode cX6_quietBand 35 = .ok (.aload_n 0, 1) := by decide +kernel
theorem dX6_quietBand_36 : decode cX6_quietBand 36 = .ok (.aload_n 0, 1) := by decide +kernel
theorem dX6_quietBand_37 : decode cX6_quietBand 37 = .ok (.iload_n 1, 1) := by decide +kernel
theorem dX6_quietBand_38 : decode cX6_quietBand 38 = .ok (.iload_n 3, 1) := by decide +kernel
theorem dX6_quietBand_39 : decode cX6_quietBand 39 = .ok (.invokevirtual 188, 3) := by decide +kernel
theorem dX6_quietBand_42 : decode cX6_quietBand 42 = .ok (.iload_n 2, 1) := by decide +kernel
theorem dX6_quietBand_43 : decode cX6_quietBand 43 = .ok (.invokevirtual 195, 3) := by decide +kernel
theorem dX6_quietBand_46 : decode cX6_quietBand 46 = .ok (.ifCond .eq 5, 3) := by decide +kernel
theorem dX6_quietBand_49 : decode cX6_quietBand 49 = .ok (.iload_n 3, 1) := by decide +kernel
theorem dX6_quietBand_50 : decode cX6_quietBand 50 = .ok (.ireturn, 1) := by decide +kernel
theorem dX6_quietBand_51 : decode cX6_quietBand 51 = .ok (.iinc 3 100, 3) := by decide +kernel
theorem dX6_quietBand_54 : decode cX6_quietBand 54 = .ok (.goto (-26), 3) := by decide +kernel
theorem dX6_quietBand_57 : decode cX6_quietBand 57 = .ok (.ldc 184, 2) := by decide +kernel
theorem dX6_quietBand_59 : decode cX6_quietBand 59 = .ok (.ireturn, 1) := by decide +kernel
theorem dX6_undo_0 : decode cX6_undo 0 = .ok (.aload_n 0, 1) := by decide +kernel
theorem dX6_undo_1 : decode cX6_undo 1 = .ok (.getfield 22, 3) := by decide +kernel
theorem dX6_undo_4 : decode cX6_undo 4 = .ok (.getfield 156, 3) := by decide +kernel
theorem dX6_undo_7 : decode cX6_undo 7 = .ok (.ifCond .ne 6, 3) := by decide +kernel
theorem dX6_undo_10 : decode cX6_undo 10 = .ok (.ldc 69, 2) := by decide +kernel
theorem dX6_undo_12 : decode cX6_undo 12 = .ok (.ireturn, 1) := by decide +kernel
theorem dX6_undo_13 : decode cX6_undo 13 = .ok (.aload_n 0, 1) := by decide +kernel
theorem dX6_undo_14 : decode cX6_undo 14 = .ok (.getfield 22, 3) := by decide +kernel
theorem dX6_undo_17 : decode cX6_undo 17 = .ok (.aload_n 0, 1) := by decide +kernel
theorem dX6_undo_18 : decode cX6_undo 18 = .ok (.getfield 10, 3) := by decide +kernel
theorem dX6_undo_21 : decode cX6_undo 21 = .ok (.invokevirtual 199, 3) := by decide +kernel
theorem dX6_undo_24 : decode cX6_undo 24 = .ok (.aload_n 0, 1) := by decide +kernel
theorem dX6_undo_25 : decode cX6_undo 25 = .ok (.getfield 22, 3) := by decide +kernel
theorem dX6_undo_28 : decode cX6_undo 28 = .ok (.getfield 156, 3) := by decide +kernel
theorem dX6_undo_31 : decode cX6_undo 31 = .ok (.ireturn, 1) := by decide +kernel
theorem dX6_forecastWithBand_0 : decode cX6_forecastWithBand 0 = .ok (.aload_n 0, 1) := by decide +kernel
theorem dX6_forecastWithBand_1 : decode cX6_forecastWithBand 1 = .ok (.getfield 16, 3) := by decide +kernel
theorem dX6_forecastWithBand_4 : decode cX6_forecastWithBand 4 = .ok (.aload_n 0, 1) := by decide +kernel
theorem dX6_forecastWithBand_5 : decode cX6_forecastWithBand 5 = .ok (.getfield 10, 3) := by decide +kernel
theorem dX6_forecastWithBand_8 : decode cX6_forecastWithBand 8 = .ok (.invokevirtual 175, 3) := by decide +kernel
theorem dX6_forecastWithBand_11 : decode cX6_forecastWithBand 11 = .ok (.aload_n 0, 1) := by decide +kernel
theorem dX6_forecastWithBand_12 : decode cX6_forecastWithBand 12 = .ok (.getfield 16, 3) := by decide +kernel
theorem dX6_forecastWithBand_15 : decode cX6_forecastWithBand 15 = .ok (.iload_n 1, 1) := by decide +kernel
theorem dX6_forecastWithBand_16 : decode cX6_forecastWithBand 16 = .ok (.invokevirtual 74, 3) := by decide +kernel
theorem dX6_forecastWithBand_19 : decode cX6_forecastWithBand 19 = .ok (.astore_n 3, 1) := by decide +kernel
theorem dX6_forecastWithBand_20 : decode cX6_forecastWithBand 20 = .ok (.aload_n 3, 1) := by decide +kernel
theorem dX6_forecastWithBand_21 : decode cX6_forecastWithBand 21 = .ok (.ifnull 8, 3) := by decide +kernel
theorem dX6_forecastWithBand_24 : decode cX6_forecastWithBand 24 = .ok (.aload_n 3, 1) := by decide +kernel
theorem dX6_forecastWithBand_25 : decode cX6_forecastWithBand 25 = .ok (.iload_n 2, 1) := by decide +kernel
theorem dX6_forecastWithBand_26 : decode cX6_forecastWithBand 26 = .ok (.putfield 84, 3) := by decide +kernel
theorem dX6_forecastWithBand_29 : decode cX6_forecastWithBand 29 = .ok (.aload_n 3, 1) := by decide +kernel
theorem dX6_forecastWithBand_30 : decode cX6_forecastWithBand 30 = .ok (.areturn, 1) := by decide +kernel
theorem dX6_isQuiet_0 : decode cX6_isQuiet 0 = .ok (.aload_n 1, 1) := by decide +kernel
theorem dX6_isQuiet_1 : decode cX6_isQuiet 1 = .ok (.ifnonnull 5, 3) := by decide +kernel
theorem dX6_isQuiet_4 : decode cX6_isQuiet 4 = .ok (.iconst 0, 1) := by decide +kernel
theorem dX6_isQuiet_5 : decode cX6_isQuiet 5 = .ok (.ireturn, 1) := by decide +kernel
theorem dX6_isQuiet_6 : decode cX6_isQuiet 6 = .ok (.aload_n 1, 1) := by decide +kernel
theorem dX6_isQuiet_7 : decode cX6_isQuiet 7 = .ok (.getfield 192, 3) := by decide +kernel
theorem dX6_isQuiet_10 : decode cX6_isQuiet 10 = .ok (.istore_n 3, 1) := by decide +kernel
theorem dX6_isQuiet_11 : decode cX6_isQuiet 11 = .ok (.iconst 0, 1) := by decide +kernel
theorem dX6_isQuiet_12 : decode cX6_isQuiet 12 = .ok (.istore 4, 2) := by decide +kernel
theorem dX6_isQuiet_14 : decode cX6_isQuiet 14 = .ok (.iload 4, 2) := by decide +kernel
theorem dX6_isQuiet_16 : decode cX6_isQuiet 16 = .ok (.iload_n 2, 1) := by decide +kernel
theorem dX6_isQuiet_17 : decode cX6_isQuiet 17 = .ok (.if_icmp .ge 27, 3) := by decide +kernel
theorem dX6_isQuiet_20 : decode cX6_isQuiet 20 = .ok (.aload_n 0, 1) := by decide +kernel
theorem dX6_isQuiet_21 : decode cX6_isQuiet 21 = .ok (.getfield 16, 3) := by decide +kernel
theorem dX6_isQuiet_24 : decode cX6_isQuiet 24 = .ok (.invokevirtual 181, 3) := by decide +kernel
theorem dX6_isQuiet_27 : decode cX6_isQuiet 27 = .ok (.pop, 1) := by decide +kernel
theorem dX6_isQuiet_28 : decode cX6_isQuiet 28 = .ok (.aload_n 1, 1) := by decide +kernel
theorem dX6_isQuiet_29 : decode cX6_isQuiet 29 = .ok (.getfield 192, 3) := by decide +kernel
theorem dX6_isQuiet_32 : decode cX6_isQuiet 32 = .ok (.iload_n 3, 1) := by decide +kernel
theorem dX6_isQuiet_33 : decode cX6_isQuiet 33 = .ok (.if_icmp .eq 5, 3) := by decide +kernel
theorem dX6_isQuiet_36 : decode cX6_isQuiet 36 = .ok (.iconst 0, 1) := by decide +kernel
theorem dX6_isQuiet_37 : decode cX6_isQuiet 37 = .ok (.ireturn, 1) := by decide +kernel
theorem dX6_isQuiet_38 : decode cX6_isQuiet 38 = .ok (.iinc 4 1, 3) := by decide +kernel
theorem dX6_isQuiet_41 : decode cX6_isQuiet 41 = .ok (.goto (-27), 3) := by decide +kernel
theorem dX6_isQuiet_44 : decode cX6_isQuiet 44 = .ok (.iconst 1, 1) := by decide +kernel
theorem dX6_isQuiet_45 : decode cX6_isQuiet 45 = .ok (.ireturn, 1) := by decide +kernel
theorem dX6_isNumberInRange_0 : decode cX6_isNumberInRange 0 = .ok (.iload_n 0, 1) := by decide +kernel
theorem dX6_isNumberInRange_1 : decode cX6_isNumberInRange 1 = .ok (.ifCond .lt 40, 3) := by decide +kernel
theorem dX6_isNumberInRange_4 : decode cX6_isNumberInRange 4 = .ok (.iload_n 0, 1) := by decide +kernel
theorem dX6_isNumberInRange_5 : decode cX6_isNumberInRange 5 = .ok (.getstatic 202, 3) := by decide +kernel
theorem dX6_isNumberInRange_8 : decode cX6_isNumberInRange 8 = .ok (.arraylength, 1) := by decide +kernel
theorem dX6_isNumberInRange_9 : decode cX6_isNumberInRange 9 = .ok (.if_icmp .ge 32, 3) := by decide +kernel
theorem dX6_isNumberInRange_12 : decode cX6_isNumberInRange 12 = .ok (.iload_n 0, 1) := by decide +kernel
theorem dX6_isNumberInRange_13 : decode cX6_isNumberInRange 13 = .ok (.getstatic 206, 3) := by decide +kernel
theorem dX6_isNumberInRange_16 : decode cX6_isNumberInRange 16 = .ok (.arraylength, 1) := by decide +kernel
theorem dX6_isNumberInRange_17 : decode cX6_isNumberInRange 17 = .ok (.if_icmp .ge 24, 3) := by decide +kernel
theorem dX6_isNumberInRange_20 : decode cX6_isNumberInRange 20 = .ok (.iload_n 1, 1) := by decide +kernel
theorem dX6_isNumberInRange_21 : decode cX6_isNumberInRange 21 = .ok (.getstatic 202, 3) := by decide +kernel
theorem dX6_isNumberInRange_24 : decode cX6_isNumberInRange 24 = .ok (.iload_n 0, 1) := by decide +kernel
theorem dX6_isNumberInRange_25 : decode cX6_isNumberInRange 25 = .ok (.iaload, 1) := by decide +kernel
theorem dX6_isNumberInRange_26 : decode cX6_isNumberInRange 26 = .ok (.getstatic 206, 3) := by decide +kernel
theorem dX6_isNumberInRange_29 : decode cX6_isNumberInRange 29 = .ok (.iload_n 0, 1) := by decide +kernel
theorem dX6_isNumberInRange_30 : decode cX6_isNumberInRange 30 = .ok (.iaload, 1) := by decide +kernel
theorem dX6_isNumberInRange_31 : decode cX6_isNumberInRange 31 = .ok (.invokestatic 40, 3) := by decide +kernel
theorem dX6_isNumberInRange_34 : decode cX6_isNumberInRange 34 = .ok (.ifCond .eq 7, 3) := by decide +kernel
theorem dX6_isNumberInRange_37 : decode cX6_isNumberInRange 37 = .ok (.iconst 1, 1) := by decide +kernel
theorem dX6_isNumberInRange_38 : decode cX6_isNumberInRange 38 = .ok (.goto 4, 3) := by decide +kernel
theorem dX6_isNumberInRange_41 : decode cX6_isNumberInRange 41 = .ok (.iconst 0, 1) := by decide +kernel
theorem dX6_isNumberInRange_42 : decode cX6_isNumberInRange 42 = .ok (.ireturn, 1) := by decide +kernel
theorem dX6_within_0 : decode cX6_within 0 = .ok (.iload_n 0, 1) := by decide +kernel
theorem dX6_within_1 : decode cX6_within 1 = .ok (.iload_n 1, 1) := by decide +kernel
theorem dX6_within_2 : decode cX6_within 2 = .ok (.if_icmp .lt 12, 3) := by decide +kernel
theorem dX6_within_5 : decode cX6_within 5 = .ok (.iload_n 0, 1) := by decide +kernel
theorem dX6_within_6 : decode cX6_within 6 = .ok (.iload_n 2, 1) := by decide +kernel
theorem dX6_within_7 : decode cX6_within 7 = .ok (.if_icmp .gt 7, 3) := by decide +kernel
theorem dX6_within_10 : decode cX6_within 10 = .ok (.iconst 1, 1) := by decide +kernel
theorem dX6_within_11 : decode cX6_within 11 = .ok (.goto 4, 3) := by decide +kernel
theorem dX6_within_14 : decode cX6_within 14 = .ok (.iconst 0, 1) := by decide +kernel
theorem dX6_within_15 : decode cX6_within 15 = .ok (.ireturn, 1) := by decide +kernel
theorem dX7_init_0 : decode cX7_init 0 = .ok (.aload_n 0, 1) := by decide +kernel
theorem dX7_init_1 : decode cX7_init 1 = .ok (.invokespecial 1, 3) := by decide +kernel
theorem dX7_init_4 : decode cX7_init 4 = .ok (.aload_n 0, 1) := by decide +kernel
theorem dX7_init_5 : decode cX7_init 5 = .ok (.sipush 196, 3) := by decide +kernel
theorem dX7_init_8 : decode cX7_init 8 = .ok (.newarray .int, 2) := by decide +kernel
theorem dX7_init_10 : decode cX7_init 10 = .ok (.putfield 7, 3) := by decide +kernel
theorem dX7_init_13 : decode cX7_init 13 = .ok (.aload_n 0, 1) := by decide +kernel
theorem dX7_init_14 : decode cX7_init 14 = .ok (.sipush 1176, 3) := by decide +kernel
theorem dX7_init_17 : decode cX7_init 17 = .ok (.newarray .int, 2) := by decide +kernel
theorem dX7_init_19 : decode cX7_init 19 = .ok (.putfield 13, 3) := by decide +kernel
theorem dX7_init_22 : decode cX7_init 22 = .ok (.aload_n 0, 1) := by decide +kernel
theorem dX7_init_23 : decode cX7_init 23 = .ok (.bipush 100, 2) := by decide +kernel
theorem dX7_init_25 : decode cX7_init 25 = .ok (.newarray .byte, 2) := by decide +kernel
theorem dX7_init_27 : decode cX7_init 27 = .ok (.putfield 16, 3) := by decide +kernel
theorem dX7_init_30 : decode cX7_init 30 = .ok (.aload_n 0, 1) := by decide +kernel
theorem dX7_init_31 : decode cX7_init 31 = .ok (.sipush 196, 3) := by decide +kernel
theorem dX7_init_34 : decode cX7_init 34 = .ok (.newarray .int, 2) := by decide +kernel
theorem dX7_init_36 : decode cX7_init 36 = .ok (.putfield 20, 3) := by decide +kernel
theorem dX7_init_39 : decode cX7_init 39 = .ok (.aload_n 0, 1) := by decide +kernel
theorem dX7_init_40 : decode cX7_init 40 = .ok (.bipush 24, 2) := by decide +kernel
theorem dX7_init_42 : decode cX7_init 42 = .ok (.newarray .int, 2) := by decide +kernel
theorem dX7_init_44 : decode cX7_init 44 = .ok (.putfield 23, 3) := by decide +kernel
theorem dX7_init_47 : decode cX7_init 47 = .ok (.aload_n 0, 1) := by decide +kernel
theorem dX7_init_48 : decode cX7_init 48 = .ok (.bipush 6, 2) := by decide +kernel
theorem dX7_init_50 : decode cX7_init 50 = .ok (.newarray .int, 2) := by decide +kernel
theorem dX7_init_52 : decode cX7_init 52 = .ok (.putfield 26, 3) := by decide +kernel
theorem dX7_init_55 : decode cX7_init 55 = .ok (.aload_n 0, 1) := by decide +kernel
theorem dX7_init_56 : decode cX7_init 56 = .ok (.getfield 7, 3) := by decide +kernel
theorem dX7_init_59 : decode cX7_init 59 = .ok (.iconst 0, 1) := by decide +kernel
theorem dX7_init_60 : decode cX7_init 60 = .ok (.bipush 25, 2) := by decide +kernel
theorem dX7_init_62 : decode cX7_init 62 = .ok (.iastore, 1) := by decide +kernel
theorem dX7_init_63 : decode cX7_init 63 = .ok (.aload_n 0, 1) := by decide +kernel
theorem dX7_init_64 : decode cX7_init 64 = .ok (.getfield 7, 3) := by decide +kernel
theorem dX7_init_67 : decode cX7_init 67 = .ok (.iconst 1, 1) := by decide +kernel
theorem dX7_init_68 : decode cX7_init 68 = .ok (.sipush 1000, 3) := by decide +kernel
theorem dX7_init_71 : decode cX7_init 71 = .ok (.iastore, 1) := by decide +kernel
theorem dX7_init_72 : decode cX7_init 72 = .ok (.aload_n 0, 1) := by decide +kernel
theorem dX7_init_73 : decode cX7_init 73 = .ok (.getfield 7, 3) := by decide +kernel
theorem dX7_init_76 : decode cX7_init 76 = .ok (.iconst 2, 1) := by decide +kernel
theorem dX7_init_77 : decode cX7_init 77 = .ok (.iconst 5, 1) := by decide +kernel
theorem dX7_init_78 : decode cX7_init 78 = .ok (.iastore, 1) := by decide +kernel
theorem dX7_init_79 : decode cX7_init 79 = .ok (.aload_n 0, 1) := by decide +kernel
theorem dX7_init_80 : decode cX7_init 80 = .ok (.getfield 7, 3) := by decide +kernel
theorem dX7_init_83 : decode cX7_init 83 = .ok (.iconst 3, 1) := by decide +kernel
theorem dX7_init_84 : decode cX7_init 84 = .ok (.bipush 10, 2) := by decide +kernel
theorem dX7_init_86 : decode cX7_init 86 = .ok (.iastore, 1) := by decide +kernel
theorem dX7_init_87 : decode cX7_init 87 = .ok (.aload_n 0, 1) := by decide +kernel
theorem dX7_init_88 : decode cX7_init 88 = .ok (.getfield 7, 3) := by decide +kernel
theorem dX7_init_91 : decode cX7_init 91 = .ok (.iconst 4, 1) := by decide +kernel
theorem dX7_init_92 : decode cX7_init 92 = .ok (.bipush 7, 2) := by decide +kernel
theorem dX7_init_94 : decode cX7_init 94 = .ok (.iastore, 1) := by decide +kernel
theorem dX7_init_95 : decode cX7_init 95 = .ok (.aload_n 0, 1) := by decide +kernel
theorem dX7_init_96 : decode cX7_init 96 = .ok (.getfield 7, 3) := by decide +kernel
theorem dX7_init_99 : decode cX7_init 99 = .ok (.iconst 5, 1) := by decide +kernel
theorem dX7_init_100 : decode cX7_init 100 = .ok (.ldc 29, 2) := by decide +kernel
theorem dX7_init_102 : decode cX7_init 102 = .ok (.iastore, 1) := by decide +kernel
theorem dX7_init_103 : decode cX7_init 103 = .ok (.aload_n 0, 1) := by decide +kernel
theorem dX7_init_104 : decode cX7_init 104 = .ok (.getfield 7, 3) := by decide +kernel
theorem dX7_init_107 : decode cX7_init 107 = .ok (.bipush 6, 2) := by decide +kernel
theorem dX7_init_109 : decode cX7_init 109 = .ok (.bipush 15, 2) := by decide +kernel
theorem dX7_init_111 : decode cX7_init 111 = .ok (.iastore, 1) := by decide +kernel
theorem dX7_init_112 : decode cX7_init 112 = .ok (.return_, 1) := by decide +kernel
theorem dX7_in_0 : decode cX7_in 0 = .ok (.iload_n 0, 1) := by decide +kernel
theorem dX7_in_1 : decode cX7_in 1 = .ok (.iload_n 1, 1) := by decide +kernel
theorem dX7_in_2 : decode cX7_in 2 = .ok (.if_icmp .lt 12, 3) := by decide +kernel
theorem dX7_in_5 : decode cX7_in 5 = .ok (.iload_n 0, 1) := by decide +kernel
theorem dX7_in_6 : decode cX7_in 6 = .ok (.iload_n 2, 1) := by decide +kernel
theorem dX7_in_7 : decode cX7_in 7 = .ok (.if_icmp .gt 7, 3) := by decide +kernel
theorem dX7_in_10 : decode cX7_in 10 = .ok (.iconst 1, 1) := by decide +kernel
theorem dX7_in_11 : decode cX7_in 11 = .ok (.goto 4, 3) := by decide +kernel
theorem dX7_in_14 : decode cX7_in 14 = .ok (.iconst 0, 1) := by decide +kernel
theorem dX7_in_15 : decode cX7_in 15 = .ok (.ireturn, 1) := by decide +kernel
theorem dX7_notes_0 : decode cX7_notes 0 = .ok (.aload_n 0, 1) := by decide +kernel
theorem dX7_notes_1 : decode cX7_notes 1 = .ok (.getfield 30, 3) := by decide +kernel
theorem dX7_notes_4 : decode cX7_notes 4 = .ok (.bipush 6, 2) := by decide +kernel
theorem dX7_notes_6 : decode cX7_notes 6 = .ok (.if_icmp .ne 44, 3) := by decide +kernel
theorem dX7_notes_9 : decode cX7_notes 9 = .ok (.iconst 0, 1) := by decide +kernel
theorem dX7_notes_10 : decode cX7_notes 10 = .ok (.istore_n 1, 1) := by decide +kernel
theorem dX7_notes_11 : decode cX7_notes 11 = .ok (.iload_n 1, 1) := by decide +kernel
theorem dX7_notes_12 : decode cX7_notes 12 = .ok (.sipush 980, 3) := by decide +kernel
theorem dX7_notes_15 : decode cX7_notes 15 = .ok (.if_icmp .ge 25, 3) := by decide +kernel
theorem dX7_notes_18 : decode cX7_notes 18 = .ok (.aload_n 0, 1) := by decide +kernel
theorem dX7_notes_19 : decode cX7_notes 19 = .ok (.getfield 13, 3) := by decide +kernel
theorem dX7_notes_22 : decode cX7_notes 22 = .ok (.iload_n 1, 1) := by decide +kernel
theorem dX7_notes_23 : decode cX7_notes 23 = .ok (.aload_n 0, 1) := by decide +kernel
theorem dX7_notes_24 : decode cX7_notes 24 = .ok (.getfield 13, 3) := by decide +kernel
theorem dX7_notes_27 : decode cX7_notes 27 = .ok (.iload_n 1, 1) := by decide +kernel
theorem dX7_notes_28 : decode cX7_notes 28 = .ok (.sipush 196, 3) := by decide +kernel
theorem dX7_notes_31 : decode cX7_notes 31 = .ok (.iadd, 1) := by decide +kernel
theorem dX7_notes_32 : decode cX7_notes 32 = .ok (.iaload, 1) := by decide +kernel
theorem dX7_notes_33 : decode cX7_notes 33 = .ok (.iastore, 1) := by decide +kernel
theorem dX7_notes_34 : decode cX7_notes 34 = .ok (.iinc 1 1, 3) := by decide +kernel
theorem dX7_notes_37 : decode cX7_notes 37 = .ok (.goto (-26), 3) := by decide +kernel
theorem dX7_notes_40 : decode cX7_notes 40 = .ok (.aload_n 0, 1) := by decide +kernel
theorem dX7_notes_41 : decode cX7_notes 41 = .ok (.dup, 1) := by decide +kernel
theorem dX7_notes_42 : decode cX7_notes 42 = .ok (.getfield 30, 3) := by decide +kernel
theorem dX7_notes_45 : decode cX7_notes 45 = .ok (.iconst 1, 1) := by decide +kernel
theorem dX7_notes_46 : decode cX7_notes 46 = .ok (.isub, 1) := by decide +kernel
theorem dX7_notes_47 : decode cX7_notes 47 = .ok (.putfield 30, 3) := by decide +kernel
theorem dX7_notes_50 : decode cX7_notes 50 = .ok (.iconst 0, 1) := by decide +kernel
theorem dX7_notes_51 : decode cX7_notes 51 = .ok (.istore_n 1, 1) := by decide +kernel
theorem dX7_notes_52 : decode cX7_notes 52 = .ok (.iload_n 1, 1) := by decide +kernel
theorem dX7_notes_53 : decode cX7_notes 53 = .ok (.sipush 196, 3) := by decide +kernel
theorem dX7_notes_56 : decode cX7_notes 56 = .ok (.if_icmp .ge 30, 3) := by decide +kernel
theorem dX7_notes_59 : decode cX7_notes 59 = .ok (.aload_n 0, 1) := by decide +kernel
theorem dX7_notes_60 : decode cX7_notes 60 = .ok (.getfield 13, 3) := by decide +kernel
theorem dX7_notes_63 : decode cX7_notes 63 = .ok (.sipush 196, 3) := by decide +kernel
theorem dX7_notes_66 : decode cX7_notes 66 = .ok (.aload_n 0, 1) := by decide +kernel
theorem dX7_notes_67 : decode cX7_notes 67 = .ok (.getfield 30, 3) := by decide +kernel
theorem dX7_notes_70 : decode cX7_notes 70 = .ok (.imul, 1) := by decide +kernel
theorem dX7_notes_71 : decode cX7_notes 71 = .ok (.iload_n 1, 1) := by decide +kernel
theorem dX7_notes_72 : decode cX7_notes 72 = .ok (.iadd, 1) := by decide +kernel
theorem dX7_notes_73 : decode cX7_notes 73 = .ok (.aload_n 0, 1) := by decide +kernel
theorem dX7_notes_74 : decode cX7_notes 74 = .ok (.getfield 7, 3) := by decide +kernel
theorem dX7_notes_77 : decode cX7_notes 77 = .ok (.iload_n 1, 1) := by decide +kernel
theorem dX7_notes_78 : decode cX7_notes 78 = .ok (.iaload, 1) := by decide +kernel
theorem dX7_notes_79 : decode cX7_notes 79 = .ok (.iastore, 1) := by decide +kernel
theorem dX7_notes_80 : decode cX7_notes 80 = .ok (.iinc 1 1, 3) := by decide +kernel
theorem dX7_notes_83 : decode cX7_notes 83 = .ok (.goto (-31), 3) := by decide +kernel
theorem dX7_notes_86 : decode cX7_notes 86 = .ok (.aload_n 0, 1) := by decide +kernel
theorem dX7_notes_87 : decode cX7_notes 87 = .ok (.dup, 1) := by decide +kernel
theorem dX7_notes_88 : decode cX7_notes 88 = .ok (.getfield 30, 3) := by decide +kernel
