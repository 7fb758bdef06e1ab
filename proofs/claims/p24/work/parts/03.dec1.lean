theorem dX0_init_0 : decode cX0_init 0 = .ok (.aload_n 0, 1) := by decide +kernel
theorem dX0_init_1 : decode cX0_init 1 = .ok (.invokespecial 3, 3) := by decide +kernel
theorem dX0_init_4 : decode cX0_init 4 = .ok (.return_, 1) := by decide +kernel
theorem dX0_begin_0 : decode cX0_begin 0 = .ok (.aload_n 0, 1) := by decide +kernel
theorem dX0_begin_1 : decode cX0_begin 1 = .ok (.iload_n 1, 1) := by decide +kernel
theorem dX0_begin_2 : decode cX0_begin 2 = .ok (.putfield 9, 3) := by decide +kernel
theorem dX0_begin_5 : decode cX0_begin 5 = .ok (.aload_n 0, 1) := by decide +kernel
theorem dX0_begin_6 : decode cX0_begin 6 = .ok (.iconst 0, 1) := by decide +kernel
theorem dX0_begin_7 : decode cX0_begin 7 = .ok (.putfield 15, 3) := by decide +kernel
theorem dX0_begin_10 : decode cX0_begin 10 = .ok (.aload_n 0, 1) := by decide +kernel
theorem dX0_begin_11 : decode cX0_begin 11 = .ok (.iconst 0, 1) := by decide +kernel
theorem dX0_begin_12 : decode cX0_begin 12 = .ok (.putfield 18, 3) := by decide +kernel
theorem dX0_begin_15 : decode cX0_begin 15 = .ok (.aload_n 0, 1) := by decide +kernel
theorem dX0_begin_16 : decode cX0_begin 16 = .ok (.iconst 0, 1) := by decide +kernel
theorem dX0_begin_17 : decode cX0_begin 17 = .ok (.putfield 21, 3) := by decide +kernel
theorem dX0_begin_20 : decode cX0_begin 20 = .ok (.aload_n 0, 1) := by decide +kernel
theorem dX0_begin_21 : decode cX0_begin 21 = .ok (.iconst 0, 1) := by decide +kernel
theorem dX0_begin_22 : decode cX0_begin 22 = .ok (.putfield 24, 3) := by decide +kernel
theorem dX0_begin_25 : decode cX0_begin 25 = .ok (.return_, 1) := by decide +kernel
theorem dX0_copyFrom_0 : decode cX0_copyFrom 0 = .ok (.aload_n 0, 1) := by decide +kernel
theorem dX0_copyFrom_1 : decode cX0_copyFrom 1 = .ok (.aload_n 1, 1) := by decide +kernel
theorem dX0_copyFrom_2 : decode cX0_copyFrom 2 = .ok (.getfield 9, 3) := by decide +kernel
theorem dX0_copyFrom_5 : decode cX0_copyFrom 5 = .ok (.putfield 9, 3) := by decide +kernel
theorem dX0_copyFrom_8 : decode cX0_copyFrom 8 = .ok (.aload_n 0, 1) := by decide +kernel
theorem dX0_copyFrom_9 : decode cX0_copyFrom 9 = .ok (.aload_n 1, 1) := by decide +kernel
theorem dX0_copyFrom_10 : decode cX0_copyFrom 10 = .ok (.getfield 15, 3) := by decide +kernel
theorem dX0_copyFrom_13 : decode cX0_copyFrom 13 = .ok (.putfield 15, 3) := by decide +kernel
theorem dX0_copyFrom_16 : decode cX0_copyFrom 16 = .ok (.aload_n 0, 1) := by decide +kernel
theorem dX0_copyFrom_17 : decode cX0_copyFrom 17 = .ok (.aload_n 1, 1) := by decide +kernel
theorem dX0_copyFrom_18 : decode cX0_copyFrom 18 = .ok (.getfield 18, 3) := by decide +kernel
theorem dX0_copyFrom_21 : decode cX0_copyFrom 21 = .ok (.putfield 18, 3) := by decide +kernel
theorem dX0_copyFrom_24 : decode cX0_copyFrom 24 = .ok (.aload_n 0, 1) := by decide +kernel
theorem dX0_copyFrom_25 : decode cX0_copyFrom 25 = .ok (.aload_n 1, 1) := by decide +kernel
theorem dX0_copyFrom_26 : decode cX0_copyFrom 26 = .ok (.getfield 21, 3) := by decide +kernel
theorem dX0_copyFrom_29 : decode cX0_copyFrom 29 = .ok (.putfield 21, 3) := by decide +kernel
theorem dX0_copyFrom_32 : decode cX0_copyFrom 32 = .ok (.aload_n 0, 1) := by decide +kernel
theorem dX0_copyFrom_33 : decode cX0_copyFrom 33 = .ok (.aload_n 1, 1) := by decide +kernel
theorem dX0_copyFrom_34 : decode cX0_copyFrom 34 = .ok (.getfield 24, 3) := by decide +kernel
theorem dX0_copyFrom_37 : decode cX0_copyFrom 37 = .ok (.putfield 24, 3) := by decide +kernel
theorem dX0_copyFrom_40 : decode cX0_copyFrom 40 = .ok (.return_, 1) := by decide +kernel
theorem dX0_sum_0 : decode cX0_sum 0 = .ok (.iload_n 1, 1) := by decide +kernel
theorem dX0_sum_1 : decode cX0_sum 1 = .ok (.tableswitch 60 0 4 #[35, 40, 45, 50, 55], 35) := by decide +kernel
theorem dX0_sum_36 : decode cX0_sum 36 = .ok (.aload_n 0, 1) := by decide +kernel
theorem dX0_sum_37 : decode cX0_sum 37 = .ok (.getfield 9, 3) := by decide +kernel
theorem dX0_sum_40 : decode cX0_sum 40 = .ok (.ireturn, 1) := by decide +kernel
theorem dX0_sum_41 : decode cX0_sum 41 = .ok (.aload_n 0, 1) := by decide +kernel
theorem dX0_sum_42 : decode cX0_sum 42 = .ok (.getfield 15, 3) := by decide +kernel
theorem dX0_sum_45 : decode cX0_sum 45 = .ok (.ireturn, 1) := by decide +kernel
theorem dX0_sum_46 : decode cX0_sum 46 = .ok (.aload_n 0, 1) := by decide +kernel
theorem dX0_sum_47 : decode cX0_sum 47 = .ok (.getfield 18, 3) := by decide +kernel
theorem dX0_sum_50 : decode cX0_sum 50 = .ok (.ireturn, 1) := by decide +kernel
theorem dX0_sum_51 : decode cX0_sum 51 = .ok (.aload_n 0, 1) := by decide +kernel
theorem dX0_sum_52 : decode cX0_sum 52 = .ok (.getfield 21, 3) := by decide +kernel
theorem dX0_sum_55 : decode cX0_sum 55 = .ok (.ireturn, 1) := by decide +kernel
theorem dX0_sum_56 : decode cX0_sum 56 = .ok (.aload_n 0, 1) := by decide +kernel
theorem dX0_sum_57 : decode cX0_sum 57 = .ok (.getfield 24, 3) := by decide +kernel
theorem dX0_sum_60 : decode cX0_sum 60 = .ok (.ireturn, 1) := by decide +kernel
theorem dX0_sum_61 : decode cX0_sum 61 = .ok (.ldc 27, 2) := by decide +kernel
theorem dX0_sum_63 : decode cX0_sum 63 = .ok (.ireturn, 1) := by decide +kernel
theorem dX1_init_0 : decode cX1_init 0 = .ok (.aload_n 0, 1) := by decide +kernel
theorem dX1_init_1 : decode cX1_init 1 = .ok (.invokespecial 3, 3) := by decide +kernel
theorem dX1_init_4 : decode cX1_init 4 = .ok (.aload_n 0, 1) := by decide +kernel
theorem dX1_init_5 : decode cX1_init 5 = .ok (.bipush 7, 2) := by decide +kernel
theorem dX1_init_7 : decode cX1_init 7 = .ok (.newarray .int, 2) := by decide +kernel
theorem dX1_init_9 : decode cX1_init 9 = .ok (.putfield 9, 3) := by decide +kernel
theorem dX1_init_12 : decode cX1_init 12 = .ok (.aload_n 0, 1) := by decide +kernel
theorem dX1_init_13 : decode cX1_init 13 = .ok (.bipush 6, 2) := by decide +kernel
theorem dX1_init_15 : decode cX1_init 15 = .ok (.anewarray 15, 3) := by decide +kernel
theorem dX1_init_18 : decode cX1_init 18 = .ok (.putfield 17, 3) := by decide +kernel
theorem dX1_init_21 : decode cX1_init 21 = .ok (.aload_n 0, 1) := by decide +kernel
theorem dX1_init_22 : decode cX1_init 22 = .ok (.bipush 36, 2) := by decide +kernel
theorem dX1_init_24 : decode cX1_init 24 = .ok (.newarray .int, 2) := by decide +kernel
theorem dX1_init_26 : decode cX1_init 26 = .ok (.putfield 21, 3) := by decide +kernel
theorem dX1_init_29 : decode cX1_init 29 = .ok (.aload_n 0, 1) := by decide +kernel
theorem dX1_init_30 : decode cX1_init 30 = .ok (.new 24, 3) := by decide +kernel
theorem dX1_init_33 : decode cX1_init 33 = .ok (.dup, 1) := by decide +kernel
theorem dX1_init_34 : decode cX1_init 34 = .ok (.invokespecial 26, 3) := by decide +kernel
theorem dX1_init_37 : decode cX1_init 37 = .ok (.putfield 27, 3) := by decide +kernel
theorem dX1_init_40 : decode cX1_init 40 = .ok (.iconst 0, 1) := by decide +kernel
theorem dX1_init_41 : decode cX1_init 41 = .ok (.istore_n 1, 1) := by decide +kernel
theorem dX1_init_42 : decode cX1_init 42 = .ok (.iload_n 1, 1) := by decide +kernel
theorem dX1_init_43 : decode cX1_init 43 = .ok (.aload_n 0, 1) := by decide +kernel
theorem dX1_init_44 : decode cX1_init 44 = .ok (.getfield 9, 3) := by decide +kernel
theorem dX1_init_47 : decode cX1_init 47 = .ok (.arraylength, 1) := by decide +kernel
theorem dX1_init_48 : decode cX1_init 48 = .ok (.if_icmp .ge 28, 3) := by decide +kernel
theorem dX1_init_51 : decode cX1_init 51 = .ok (.iload_n 1, 1) := by decide +kernel
theorem dX1_init_52 : decode cX1_init 52 = .ok (.getstatic 31, 3) := by decide +kernel
theorem dX1_init_55 : decode cX1_init 55 = .ok (.arraylength, 1) := by decide +kernel
theorem dX1_init_56 : decode cX1_init 56 = .ok (.if_icmp .ge 20, 3) := by decide +kernel
theorem dX1_init_59 : decode cX1_init 59 = .ok (.aload_n 0, 1) := by decide +kernel
theorem dX1_init_60 : decode cX1_init 60 = .ok (.getfield 9, 3) := by decide +kernel
theorem dX1_init_63 : decode cX1_init 63 = .ok (.iload_n 1, 1) := by decide +kernel
theorem dX1_init_64 : decode cX1_init 64 = .ok (.getstatic 31, 3) := by decide +kernel
theorem dX1_init_67 : decode cX1_init 67 = .ok (.iload_n 1, 1) := by decide +kernel
theorem dX1_init_68 : decode cX1_init 68 = .ok (.iaload, 1) := by decide +kernel
theorem dX1_init_69 : decode cX1_init 69 = .ok (.iastore, 1) := by decide +kernel
theorem dX1_init_70 : decode cX1_init 70 = .ok (.iinc 1 1, 3) := by decide +kernel
theorem dX1_init_73 : decode cX1_init 73 = .ok (.goto (-31), 3) := by decide +kernel
theorem dX1_init_76 : decode cX1_init 76 = .ok (.iconst 0, 1) := by decide +kernel
theorem dX1_init_77 : decode cX1_init 77 = .ok (.istore_n 1, 1) := by decide +kernel
theorem dX1_init_78 : decode cX1_init 78 = .ok (.iload_n 1, 1) := by decide +kernel
theorem dX1_init_79 : decode cX1_init 79 = .ok (.aload_n 0, 1) := by decide +kernel
theorem dX1_init_80 : decode cX1_init 80 = .ok (.getfield 17, 3) := by decide +kernel
theorem dX1_init_83 : decode cX1_init 83 = .ok (.arraylength, 1) := by decide +kernel
theorem dX1_init_84 : decode cX1_init 84 = .ok (.if_icmp .ge 22, 3) := by decide +kernel
theorem dX1_init_87 : decode cX1_init 87 = .ok (.aload_n 0, 1) := by decide +kernel
theorem dX1_init_88 : decode cX1_init 88 = .ok (.getfield 17, 3) := by decide +kernel
theorem dX1_init_91 : decode cX1_init 91 = .ok (.iload_n 1, 1) := by decide +kernel
theorem dX1_init_92 : decode cX1_init 92 = .ok (.new 15, 3) := by decide +kernel
theorem dX1_init_95 : decode cX1_init 95 = .ok (.dup, 1) := by decide +kernel
theorem dX1_init_96 : decode cX1_init 96 = .ok (.invokespecial 34, 3) := by decide +kernel
theorem dX1_init_99 : decode cX1_init 99 = .ok (.aastore, 1) := by decide +kernel
theorem dX1_init_100 : decode cX1_init 100 = .ok (.iinc 1 1, 3) := by decide +kernel
theorem dX1_init_103 : decode cX1_init 103 = .ok (.goto (-25), 3) := by decide +kernel
theorem dX1_init_106 : decode cX1_init 106 = .ok (.return_, 1) := by decide +kernel
theorem dX1_copyFrom_0 : decode cX1_copyFrom 0 = .ok (.aload_n 1, 1) := by decide +kernel
theorem dX1_copyFrom_1 : decode cX1_copyFrom 1 = .ok (.getfield 9, 3) := by decide +kernel
theorem dX1_copyFrom_4 : decode cX1_copyFrom 4 = .ok (.iconst 0, 1) := by decide +kernel
theorem dX1_copyFrom_5 : decode cX1_copyFrom 5 = .ok (.aload_n 0, 1) := by decide +kernel
theorem dX1_copyFrom_6 : decode cX1_copyFrom 6 = .ok (.getfield 9, 3) := by decide +kernel
theorem dX1_copyFrom_9 : decode cX1_copyFrom 9 = .ok (.iconst 0, 1) := by decide +kernel
theorem dX1_copyFrom_10 : decode cX1_copyFrom 10 = .ok (.bipush 7, 2) := by decide +kernel
theorem dX1_copyFrom_12 : decode cX1_copyFrom 12 = .ok (.invokestatic 35, 3) := by decide +kernel
theorem dX1_copyFrom_15 : decode cX1_copyFrom 15 = .ok (.aload_n 1, 1) := by decide +kernel
theorem dX1_copyFrom_16 : decode cX1_copyFrom 16 = .ok (.getfield 21, 3) := by decide +kernel
theorem dX1_copyFrom_19 : decode cX1_copyFrom 19 = .ok (.iconst 0, 1) := by decide +kernel
theorem dX1_copyFrom_20 : decode cX1_copyFrom 20 = .ok (.aload_n 0, 1) := by decide +kernel
theorem dX1_copyFrom_21 : decode cX1_copyFrom 21 = .ok (.getfield 21, 3) := by decide +kernel
theorem dX1_copyFrom_24 : decode cX1_copyFrom 24 = .ok (.iconst 0, 1) := by decide +kernel
theorem dX1_copyFrom_25 : decode cX1_copyFrom 25 = .ok (.bipush 36, 2) := by decide +kernel
theorem dX1_copyFrom_27 : decode cX1_copyFrom 27 = .ok (.invokestatic 35, 3) := by decide +kernel
theorem dX1_copyFrom_30 : decode cX1_copyFrom 30 = .ok (.aload_n 0, 1) := by decide +kernel
theorem dX1_copyFrom_31 : decode cX1_copyFrom 31 = .ok (.getfield 27, 3) := by decide +kernel
theorem dX1_copyFrom_34 : decode cX1_copyFrom 34 = .ok (.aload_n 1, 1) := by decide +kernel
theorem dX1_copyFrom_35 : decode cX1_copyFrom 35 = .ok (.getfield 27, 3) := by decide +kernel
theorem dX1_copyFrom_38 : decode cX1_copyFrom 38 = .ok (.invokevirtual 41, 3) := by decide +kernel
theorem dX1_copyFrom_41 : decode cX1_copyFrom 41 = .ok (.aload_n 0, 1) := by decide +kernel
theorem dX1_copyFrom_42 : decode cX1_copyFrom 42 = .ok (.aload_n 1, 1) := by decide +kernel
theorem dX1_copyFrom_43 : decode cX1_copyFrom 43 = .ok (.getfield 45, 3) := by decide +kernel
theorem dX1_copyFrom_46 : decode cX1_copyFrom 46 = .ok (.putfield 45, 3) := by decide +kernel
theorem dX1_copyFrom_49 : decode cX1_copyFrom 49 = .ok (.aload_n 0, 1) := by decide +kernel
theorem dX1_copyFrom_50 : decode cX1_copyFrom 50 = .ok (.aload_n 1, 1) := by decide +kernel
theorem dX1_copyFrom_51 : decode cX1_copyFrom 51 = .ok (.getfield 49, 3) := by decide +kernel
theorem dX1_copyFrom_54 : decode cX1_copyFrom 54 = .ok (.putfield 49, 3) := by decide +kernel
theorem dX1_copyFrom_57 : decode cX1_copyFrom 57 = .ok (.iconst 0, 1) := by decide +kernel
theorem dX1_copyFrom_58 : decode cX1_copyFrom 58 = .ok (.istore_n 2, 1) := by decide +kernel
theorem dX1_copyFrom_59 : decode cX1_copyFrom 59 = .ok (.iload_n 2, 1) := by decide +kernel
theorem dX1_copyFrom_60 : decode cX1_copyFrom 60 = .ok (.aload_n 0, 1) := by decide +kernel
theorem dX1_copyFrom_61 : decode cX1_copyFrom 61 = .ok (.getfield 45, 3) := by decide +kernel
theorem dX1_copyFrom_64 : decode cX1_copyFrom 64 = .ok (.if_icmp .ge 37, 3) := by decide +kernel
theorem dX1_copyFrom_67 : decode cX1_copyFrom 67 = .ok (.aload_n 0, 1) := by decide +kernel
theorem dX1_copyFrom_68 : decode cX1_copyFrom 68 = .ok (.iload_n 2, 1) := by decide +kernel
theorem dX1_copyFrom_69 : decode cX1_copyFrom 69 = .ok (.invokevirtual 52, 3) := by decide +kernel
theorem dX1_copyFrom_72 : decode cX1_copyFrom 72 = .ok (.astore_n 3, 1) := by decide +kernel
theorem dX1_copyFrom_73 : decode cX1_copyFrom 73 = .ok (.aload_n 1, 1) := by decide +kernel
theorem dX1_copyFrom_74 : decode cX1_copyFrom 74 = .ok (.iload_n 2, 1) := by decide +kernel
theorem dX1_copyFrom_75 : decode cX1_copyFrom 75 = .ok (.invokevirtual 52, 3) := by decide +kernel
theorem dX1_copyFrom_78 : decode cX1_copyFrom 78 = .ok (.astore 4, 2) := by decide +kernel
theorem dX1_copyFrom_80 : decode cX1_copyFrom 80 = .ok (.aload_n 3, 1) := by decide +kernel
theorem dX1_copyFrom_81 : decode cX1_copyFrom 81 = .ok (.ifnull 14, 3) := by decide +kernel
theorem dX1_copyFrom_84 : decode cX1_copyFrom 84 = .ok (.aload 4, 2) := by decide +kernel
theorem dX1_copyFrom_86 : decode cX1_copyFrom 86 = .ok (.ifnull 9, 3) := by decide +kernel
theorem dX1_copyFrom_89 : decode cX1_copyFrom 89 = .ok (.aload_n 3, 1) := by decide +kernel
theorem dX1_copyFrom_90 : decode cX1_copyFrom 90 = .ok (.aload 4, 2) := by decide +kernel
theorem dX1_copyFrom_92 : decode cX1_copyFrom 92 = .ok (.invokevirtual 56, 3) := by decide +kernel
theorem dX1_copyFrom_95 : decode cX1_copyFrom 95 = .ok (.iinc 2 1, 3) := by decide +kernel
theorem dX1_copyFrom_98 : decode cX1_copyFrom 98 = .ok (.goto (-39), 3) := by decide +kernel
theorem dX1_copyFrom_101 : decode cX1_copyFrom 101 = .ok (.return_, 1) := by decide +kernel
theorem dX1_number_0 : decode cX1_number 0 = .ok (.iload_n 1, 1) := by decide +kernel
theorem dX1_number_1 : decode cX1_number 1 = .ok (.ifCond .lt 21, 3) := by decide +kernel
theorem dX1_number_4 : decode cX1_number 4 = .ok (.iload_n 1, 1) := by decide +kernel
theorem dX1_number_5 : decode cX1_number 5 = .ok (.aload_n 0, 1) := by decide +kernel
theorem dX1_number_6 : decode cX1_number 6 = .ok (.getfield 9, 3) := by decide +kernel
theorem dX1_number_9 : decode cX1_number 9 = .ok (.arraylength, 1) := by decide +kernel
theorem dX1_number_10 : decode cX1_number 10 = .ok (.if_icmp .ge 12, 3) := by decide +kernel
theorem dX1_number_13 : decode cX1_number 13 = .ok (.aload_n 0, 1) := by decide +kernel
theorem dX1_number_14 : decode cX1_number 14 = .ok (.getfield 9, 3) := by decide +kernel
theorem dX1_number_17 : decode cX1_number 17 = .ok (.iload_n 1, 1) := by decide +kernel
theorem dX1_number_18 : decode cX1_number 18 = .ok (.iaload, 1) := by decide +kernel
theorem dX1_number_19 : decode cX1_number 19 = .ok (.goto 4, 3) := by decide +kernel
theorem dX1_number_22 : decode cX1_number 22 = .ok (.iconst 0, 1) := by decide +kernel
theorem dX1_number_23 : decode cX1_number 23 = .ok (.ireturn, 1) := by decide +kernel
theorem dX1_putNumber_0 : decode cX1_putNumber 0 = .ok (.iload_n 1, 1) := by decide +kernel
theorem dX1_putNumber_1 : decode cX1_putNumber 1 = .ok (.ifCond .lt 19, 3) := by decide +kernel
theorem dX1_putNumber_4 : decode cX1_putNumber 4 = .ok (.iload_n 1, 1) := by decide +kernel
theorem dX1_putNumber_5 : decode cX1_putNumber 5 = .ok (.aload_n 0, 1) := by decide +kernel
theorem dX1_putNumber_6 : decode cX1_putNumber 6 = .ok (.getfield 9, 3) := by decide +kernel
theorem dX1_putNumber_9 : decode cX1_putNumber 9 = .ok (.arraylength, 1) := by decide +kernel
theorem dX1_putNumber_10 : decode cX1_putNumber 10 = .ok (.if_icmp .ge 10, 3) := by decide +kernel
theorem dX1_putNumber_13 : decode cX1_putNumber 13 = .ok (.aload_n 0, 1) := by decide +kernel
theorem dX1_putNumber_14 : decode cX1_putNumber 14 = .ok (.getfield 9, 3) := by decide +kernel
theorem dX1_putNumber_17 : decode cX1_putNumber 17 = .ok (.iload_n 1, 1) := by decide +kernel
theorem dX1_putNumber_18 : decode cX1_putNumber 18 = .ok (.iload_n 2, 1) := by decide +kernel
theorem dX1_putNumber_19 : decode cX1_putNumber 19 = .ok (.iastore, 1) := by decide +kernel
theorem dX1_putNumber_20 : decode cX1_putNumber 20 = .ok (.return_, 1) := by decide +kernel
theorem dX1_roomAt_0 : decode cX1_roomAt 0 = .ok (.iload_n 1, 1) := by decide +kernel
theorem dX1_roomAt_1 : decode cX1_roomAt 1 = .ok (.ifCond .lt 29, 3) := by decide +kernel
theorem dX1_roomAt_4 : decode cX1_roomAt 4 = .ok (.iload_n 1, 1) := by decide +kernel
theorem dX1_roomAt_5 : decode cX1_roomAt 5 = .ok (.aload_n 0, 1) := by decide +kernel
theorem dX1_roomAt_6 : decode cX1_roomAt 6 = .ok (.getfield 45, 3) := by decide +kernel
theorem dX1_roomAt_9 : decode cX1_roomAt 9 = .ok (.if_icmp .ge 21, 3) := by decide +kernel
theorem dX1_roomAt_12 : decode cX1_roomAt 12 = .ok (.iload_n 1, 1) := by decide +kernel
theorem dX1_roomAt_13 : decode cX1_roomAt 13 = .ok (.aload_n 0, 1) := by decide +kernel
theorem dX1_roomAt_14 : decode cX1_roomAt 14 = .ok (.getfield 17, 3) := by decide +kernel
theorem dX1_roomAt_17 : decode cX1_roomAt 17 = .ok (.arraylength, 1) := by decide +kernel
theorem dX1_roomAt_18 : decode cX1_roomAt 18 = .ok (.if_icmp .ge 12, 3) := by decide +kernel
theorem dX1_roomAt_21 : decode cX1_roomAt 21 = .ok (.aload_n 0, 1) := by decide +kernel
theorem dX1_roomAt_22 : decode cX1_roomAt 22 = .ok (.getfield 17, 3) := by decide +kernel
theorem dX1_roomAt_25 : decode cX1_roomAt 25 = .ok (.iload_n 1, 1) := by decide +kernel
theorem dX1_roomAt_26 : decode cX1_roomAt 26 = .ok (.aaload, 1) := by decide +kernel
theorem dX1_roomAt_27 : decode cX1_roomAt 27 = .ok (.goto 4, 3) := by decide +kernel
theorem dX1_roomAt_30 : decode cX1_roomAt 30 = .ok (.aconst_null, 1) := by decide +kernel
theorem dX1_roomAt_31 : decode cX1_roomAt 31 = .ok (.areturn, 1) := by decide +kernel
theorem dX1_beginRoom_0 : decode cX1_beginRoom 0 = .ok (.aload_n 0, 1) := by decide +kernel
theorem dX1_beginRoom_1 : decode cX1_beginRoom 1 = .ok (.getfield 45, 3) := by decide +kernel
theorem dX1_beginRoom_4 : decode cX1_beginRoom 4 = .ok (.istore 5, 2) := by decide +kernel
theorem dX1_beginRoom_6 : decode cX1_beginRoom 6 = .ok (.aload_n 0, 1) := by decide +kernel
theorem dX1_beginRoom_7 : decode cX1_beginRoom 7 = .ok (.dup, 1) := by decide +kernel
theorem dX1_beginRoom_8 : decode cX1_beginRoom 8 = .ok (.getfield 45, 3) := by decide +kernel
theorem dX1_beginRoom_11 : decode cX1_beginRoom 11 = .ok (.iconst 1, 1) := by decide +kernel
theorem dX1_beginRoom_12 : decode cX1_beginRoom 12 = .ok (.iadd, 1) := by decide +kernel
theorem dX1_beginRoom_13 : decode cX1_beginRoom 13 = .ok (.putfield 45, 3) := by decide +kernel
theorem dX1_beginRoom_16 : decode cX1_beginRoom 16 = .ok (.aload_n 0, 1) := by decide +kernel
theorem dX1_beginRoom_17 : decode cX1_beginRoom 17 = .ok (.iload 5, 2) := by decide +kernel
theorem dX1_beginRoom_19 : decode cX1_beginRoom 19 = .ok (.invokevirtual 52, 3) := by decide +kernel
theorem dX1_beginRoom_22 : decode cX1_beginRoom 22 = .ok (.astore 6, 2) := by decide +kernel
theorem dX1_beginRoom_24 : decode cX1_beginRoom 24 = .ok (.aload 6, 2) := by decide +kernel
theorem dX1_beginRoom_26 : decode cX1_beginRoom 26 = .ok (.ifnull 13, 3) := by decide +kernel
theorem dX1_beginRoom_29 : decode cX1_beginRoom 29 = .ok (.aload 6, 2) := by decide +kernel
theorem dX1_beginRoom_31 : decode cX1_beginRoom 31 = .ok (.iload_n 1, 1) := by decide +kernel
theorem dX1_beginRoom_32 : decode cX1_beginRoom 32 = .ok (.iload_n 2, 1) := by decide +kernel
theorem dX1_beginRoom_33 : decode cX1_beginRoom 33 = .ok (.iload_n 3, 1) := by decide +kernel
theorem dX1_beginRoom_34 : decode cX1_beginRoom 34 = .ok (.iload 4, 2) := by decide +kernel
theorem dX1_beginRoom_36 : decode cX1_beginRoom 36 = .ok (.invokevirtual 59, 3) := by decide +kernel
theorem dX1_beginRoom_39 : decode cX1_beginRoom 39 = .ok (.iload 5, 2) := by decide +kernel
theorem dX1_beginRoom_41 : decode cX1_beginRoom 41 = .ok (.ireturn, 1) := by decide +kernel
theorem dX1_hasPair_0 : decode cX1_hasPair 0 = .ok (.iload_n 1, 1) := by decide +kernel
theorem dX1_hasPair_1 : decode cX1_hasPair 1 = .ok (.iload_n 2, 1) := by decide +kernel
theorem dX1_hasPair_2 : decode cX1_hasPair 2 = .ok (.if_icmp .eq 23, 3) := by decide +kernel
theorem dX1_hasPair_5 : decode cX1_hasPair 5 = .ok (.aload_n 0, 1) := by decide +kernel
theorem dX1_hasPair_6 : decode cX1_hasPair 6 = .ok (.iload_n 1, 1) := by decide +kernel
theorem dX1_hasPair_7 : decode cX1_hasPair 7 = .ok (.invokevirtual 52, 3) := by decide +kernel
theorem dX1_hasPair_10 : decode cX1_hasPair 10 = .ok (.ifnull 15, 3) := by decide +kernel
theorem dX1_hasPair_13 : decode cX1_hasPair 13 = .ok (.aload_n 0, 1) := by decide +kernel
theorem dX1_hasPair_14 : decode cX1_hasPair 14 = .ok (.iload_n 2, 1) := by decide +kernel
theorem dX1_hasPair_15 : decode cX1_hasPair 15 = .ok (.invokevirtual 52, 3) := by decide +kernel
theorem dX1_hasPair_18 : decode cX1_hasPair 18 = .ok (.ifnull 7, 3) := by decide +kernel
theorem dX1_hasPair_21 : decode cX1_hasPair 21 = .ok (.iconst 1, 1) := by decide +kernel
theorem dX1_hasPair_22 : decode cX1_hasPair 22 = .ok (.goto 4, 3) := by decide +kernel
theorem dX1_hasPair_25 : decode cX1_hasPair 25 = .ok (.iconst 0, 1) := by decide +kernel
theorem dX1_hasPair_26 : decode cX1_hasPair 26 = .ok (.ireturn, 1) := by decide +kernel
theorem dX1_linkOf_0 : decode cX1_linkOf 0 = .ok (.iload_n 1, 1) := by decide +kernel
theorem dX1_linkOf_1 : decode cX1_linkOf 1 = .ok (.iload_n 2, 1) := by decide +kernel
theorem dX1_linkOf_2 : decode cX1_linkOf 2 = .ok (.invokestatic 63, 3) := by decide +kernel
theorem dX1_linkOf_5 : decode cX1_linkOf 5 = .ok (.istore_n 3, 1) := by decide +kernel
theorem dX1_linkOf_6 : decode cX1_linkOf 6 = .ok (.iload_n 3, 1) := by decide +kernel
theorem dX1_linkOf_7 : decode cX1_linkOf 7 = .ok (.ifCond .lt 21, 3) := by decide +kernel
theorem dX1_linkOf_10 : decode cX1_linkOf 10 = .ok (.iload_n 3, 1) := by decide +kernel
theorem dX1_linkOf_11 : decode cX1_linkOf 11 = .ok (.aload_n 0, 1) := by decide +kernel
theorem dX1_linkOf_12 : decode cX1_linkOf 12 = .ok (.getfield 21, 3) := by decide +kernel
theorem dX1_linkOf_15 : decode cX1_linkOf 15 = .ok (.arraylength, 1) := by decide +kernel
theorem dX1_linkOf_16 : decode cX1_linkOf 16 = .ok (.if_icmp .ge 12, 3) := by decide +kernel
theorem dX1_linkOf_19 : decode cX1_linkOf 19 = .ok (.aload_n 0, 1) := by decide +kernel
theorem dX1_linkOf_20 : decode cX1_linkOf 20 = .ok (.getfield 21, 3) := by decide +kernel
theorem dX1_linkOf_23 : decode cX1_linkOf 23 = .ok (.iload_n 3, 1) := by decide +kernel
theorem dX1_linkOf_24 : decode cX1_linkOf 24 = .ok (.iaload, 1) := by decide +kernel
theorem dX1_linkOf_25 : decode cX1_linkOf 25 = .ok (.goto 4, 3) := by decide +kernel
theorem dX1_linkOf_28 : decode cX1_linkOf 28 = .ok (.iconst 0, 1) := by decide +kernel
theorem dX1_linkOf_29 : decode cX1_linkOf 29 = .ok (.ireturn, 1) := by decide +kernel
theorem dX1_putLink_0 : decode cX1_putLink 0 = .ok (.aload_n 0, 1) := by decide +kernel
theorem dX1_putLink_1 : decode cX1_putLink 1 = .ok (.iload_n 1, 1) := by decide +kernel
theorem dX1_putLink_2 : decode cX1_putLink 2 = .ok (.iload_n 2, 1) := by decide +kernel
theorem dX1_putLink_3 : decode cX1_putLink 3 = .ok (.invokestatic 63, 3) := by decide +kernel
theorem dX1_putLink_6 : decode cX1_putLink 6 = .ok (.iload_n 3, 1) := by decide +kernel
theorem dX1_putLink_7 : decode cX1_putLink 7 = .ok (.invokevirtual 67, 3) := by decide +kernel
theorem dX1_putLink_10 : decode cX1_putLink 10 = .ok (.aload_n 0, 1) := by decide +kernel
theorem dX1_putLink_11 : decode cX1_putLink 11 = .ok (.iload_n 2, 1) := by decide +kernel
theorem dX1_putLink_12 : decode cX1_putLink 12 = .ok (.iload_n 1, 1) := by decide +kernel
theorem dX1_putLink_13 : decode cX1_putLink 13 = .ok (.invokestatic 63, 3) := by decide +kernel
theorem dX1_putLink_16 : decode cX1_putLink 16 = .ok (.iload_n 3, 1) := by decide +kernel
theorem dX1_putLink_17 : decode cX1_putLink 17 = .ok (.invokevirtual 67, 3) := by decide +kernel
theorem dX1_putLink_20 : decode cX1_putLink 20 = .ok (.return_, 1) := by decide +kernel
theorem dX1_putLinkAt_0 : decode cX1_putLinkAt 0 = .ok (.iload_n 1, 1) := by decide +kernel
theorem dX1_putLinkAt_1 : decode cX1_putLinkAt 1 = .ok (.ifCond .lt 19, 3) := by decide +kernel
theorem dX1_putLinkAt_4 : decode cX1_putLinkAt 4 = .ok (.iload_n 1, 1) := by decide +kernel
theorem dX1_putLinkAt_5 : decode cX1_putLinkAt 5 = .ok (.aload_n 0, 1) := by decide +kernel
theorem dX1_putLinkAt_6 : decode cX1_putLinkAt 6 = .ok (.getfield 21, 3) := by decide +kernel
theorem dX1_putLinkAt_9 : decode cX1_putLinkAt 9 = .ok (.arraylength, 1) := by decide +kernel
theorem dX1_putLinkAt_10 : decode cX1_putLinkAt 10 = .ok (.if_icmp .ge 10, 3) := by decide +kernel
theorem dX1_putLinkAt_13 : decode cX1_putLinkAt 13 = .ok (.aload_n 0, 1) := by decide +kernel
theorem dX1_putLinkAt_14 : decode cX1_putLinkAt 14 = .ok (.getfield 21, 3) := by decide +kernel
theorem dX1_putLinkAt_17 : decode cX1_putLinkAt 17 = .ok (.iload_n 1, 1) := by decide +kernel
theorem dX1_putLinkAt_18 : decode cX1_putLinkAt 18 = .ok (.iload_n 2, 1) := by decide +kernel
theorem dX1_putLinkAt_19 : decode cX1_putLinkAt 19 = .ok (.iastore, 1) := by decide +kernel
theorem dX1_putLinkAt_20 : decode cX1_putLinkAt 20 = .ok (.return_, 1) := by decide +kernel
theorem dX1_linkPlace_0 : decode cX1_linkPlace 0 = .ok (.iload_n 0, 1) := by decide +kernel
theorem dX1_linkPlace_1 : decode cX1_linkPlace 1 = .ok (.bipush 6, 2) := by decide +kernel
theorem dX1_linkPlace_3 : decode cX1_linkPlace 3 = .ok (.imul, 1) := by decide +kernel
theorem dX1_linkPlace_4 : decode cX1_linkPlace 4 = .ok (.iload_n 1, 1) := by decide +kernel
theorem dX1_linkPlace_5 : decode cX1_linkPlace 5 = .ok (.iadd, 1) := by decide +kernel
theorem dX1_linkPlace_6 : decode cX1_linkPlace 6 = .ok (.ireturn, 1) := by decide +kernel
theorem dX1_canCarry_0 : decode cX1_canCarry 0 = .ok (.aload_n 0, 1) := by decide +kernel
theorem dX1_canCarry_1 : decode cX1_canCarry 1 = .ok (.iload_n 1, 1) := by decide +kernel
theorem dX1_canCarry_2 : decode cX1_canCarry 2 = .ok (.invokevirtual 52, 3) := by decide +kernel
theorem dX1_canCarry_5 : decode cX1_canCarry 5 = .ok (.astore_n 3, 1) := by decide +kernel
theorem dX1_canCarry_6 : decode cX1_canCarry 6 = .ok (.aload_n 3, 1) := by decide +kernel
theorem dX1_canCarry_7 : decode cX1_canCarry 7 = .ok (.ifnonnull 5, 3) := by decide +kernel
theorem dX1_canCarry_10 : decode cX1_canCarry 10 = .ok (.iconst 0, 1) := by decide +kernel
theorem dX1_canCarry_11 : decode cX1_canCarry 11 = .ok (.ireturn, 1) := by decide +kernel
theorem dX1_canCarry_12 : decode cX1_canCarry 12 = .ok (.aload_n 3, 1) := by decide +kernel
theorem dX1_canCarry_13 : decode cX1_canCarry 13 = .ok (.getfield 71, 3) := by decide +kernel
theorem dX1_canCarry_16 : decode cX1_canCarry 16 = .ok (.iload_n 2, 1) := by decide +kernel
theorem dX1_canCarry_17 : decode cX1_canCarry 17 = .ok (.iadd, 1) := by decide +kernel
theorem dX1_canCarry_18 : decode cX1_canCarry 18 = .ok (.istore 4, 2) := by decide +kernel
theorem dX1_canCarry_20 : decode cX1_canCarry 20 = .ok (.iconst 0, 1) := by decide +kernel
theorem dX1_canCarry_21 : decode cX1_canCarry 21 = .ok (.istore 5, 2) := by decide +kernel
theorem dX1_canCarry_23 : decode cX1_canCarry 23 = .ok (.iload 5, 2) := by decide +kernel
theorem dX1_canCarry_25 : decode cX1_canCarry 25 = .ok (.aload_n 0, 1) := by decide +kernel
theorem dX1_canCarry_26 : decode cX1_canCarry 26 = .ok (.getfield 45, 3) := by decide +kernel
theorem dX1_canCarry_29 : decode cX1_canCarry 29 = .ok (.if_icmp .ge 21, 3) := by decide +kernel
theorem dX1_canCarry_32 : decode cX1_canCarry 32 = .ok (.iload 4, 2) := by decide +kernel
theorem dX1_canCarry_34 : decode cX1_canCarry 34 = .ok (.aload_n 0, 1) := by decide +kernel
theorem dX1_canCarry_35 : decode cX1_canCarry 35 = .ok (.iload_n 1, 1) := by decide +kernel
theorem dX1_canCarry_36 : decode cX1_canCarry 36 = .ok (.iload 5, 2) := by decide +kernel
theorem dX1_canCarry_38 : decode cX1_canCarry 38 = .ok (.invokevirtual 74, 3) := by decide +kernel
theorem dX1_canCarry_41 : decode cX1_canCarry 41 = .ok (.iadd, 1) := by decide +kernel
theorem dX1_canCarry_42 : decode cX1_canCarry 42 = .ok (.istore 4, 2) := by decide +kernel
theorem dX1_canCarry_44 : decode cX1_canCarry 44 = .ok (.iinc 5 1, 3) := by decide +kernel
theorem dX1_canCarry_47 : decode cX1_canCarry 47 = .ok (.goto (-24), 3) := by decide +kernel
theorem dX1_canCarry_50 : decode cX1_canCarry 50 = .ok (.iload 4, 2) := by decide +kernel
theorem dX1_canCarry_52 : decode cX1_canCarry 52 = .ok (.aload_n 3, 1) := by decide +kernel
theorem dX1_canCarry_53 : decode cX1_canCarry 53 = .ok (.getfield 77, 3) := by decide +kernel
theorem dX1_canCarry_56 : decode cX1_canCarry 56 = .ok (.iconst 2, 1) := by decide +kernel
theorem dX1_canCarry_57 : decode cX1_canCarry 57 = .ok (.idiv, 1) := by decide +kernel
theorem dX1_canCarry_58 : decode cX1_canCarry 58 = .ok (.if_icmp .gt 7, 3) := by decide +kernel
theorem dX1_canCarry_61 : decode cX1_canCarry 61 = .ok (.iconst 1, 1) := by decide +kernel
theorem dX1_canCarry_62 : decode cX1_canCarry 62 = .ok (.goto 4, 3) := by decide +kernel
theorem dX1_canCarry_65 : decode cX1_canCarry 65 = .ok (.iconst 0, 1) := by decide +kernel
theorem dX1_canCarry_66 : decode cX1_canCarry 66 = .ok (.ireturn, 1) := by decide +kernel
theorem dX1_isSuspect_0 : decode cX1_isSuspect 0 = .ok (.aload_n 1, 1) := by decide +kernel
theorem dX1_isSuspect_1 : decode cX1_isSuspect 1 = .ok (.getfield 80, 3) := by decide +kernel
theorem dX1_isSuspect_4 : decode cX1_isSuspect 4 = .ok (.aload_n 0, 1) := by decide +kernel
theorem dX1_isSuspect_5 : decode cX1_isSuspect 5 = .ok (.bipush 6, 2) := by decide +kernel
theorem dX1_isSuspect_7 : decode cX1_isSuspect 7 = .ok (.invokevirtual 83, 3) := by decide +kernel
theorem dX1_isSuspect_10 : decode cX1_isSuspect 10 = .ok (.if_icmp .lt 7, 3) := by decide +kernel
theorem dX1_isSuspect_13 : decode cX1_isSuspect 13 = .ok (.iconst 1, 1) := by decide +kernel
theorem dX1_isSuspect_14 : decode cX1_isSuspect 14 = .ok (.goto 4, 3) := by decide +kernel
theorem dX1_isSuspect_17 : decode cX1_isSuspect 17 = .ok (.iconst 0, 1) := by decide +kernel
theorem dX1_isSuspect_18 : decode cX1_isSuspect 18 = .ok (.ireturn, 1) := by decide +kernel
theorem dX1_suspectRooms_0 : decode cX1_suspectRooms 0 = .ok (.iconst 0, 1) := by decide +kernel
theorem dX1_suspectRooms_1 : decode cX1_suspectRooms 1 = .ok (.istore_n 1, 1) := by decide +kernel
theorem dX1_suspectRooms_2 : decode cX1_suspectRooms 2 = .ok (.iconst 0, 1) := by decide +kernel
theorem dX1_suspectRooms_3 : decode cX1_suspectRooms 3 = .ok (.istore_n 2, 1) := by decide +kernel
theorem dX1_suspectRooms_4 : decode cX1_suspectRooms 4 = .ok (.iload_n 2, 1) := by decide +kernel
theorem dX1_suspectRooms_5 : decode cX1_suspectRooms 5 = .ok (.aload_n 0, 1) := by decide +kernel
theorem dX1_suspectRooms_6 : decode cX1_suspectRooms 6 = .ok (.getfield 45, 3) := by decide +kernel
theorem dX1_suspectRooms_9 : decode cX1_suspectRooms 9 = .ok (.if_icmp .ge 35, 3) := by decide +kernel
theorem dX1_suspectRooms_12 : decode cX1_suspectRooms 12 = .ok (.aload_n 0, 1) := by decide +kernel
theorem dX1_suspectRooms_13 : decode cX1_suspectRooms 13 = .ok (.iload_n 2, 1) := by decide +kernel
theorem dX1_suspectRooms_14 : decode cX1_suspectRooms 14 = .ok (.invokevirtual 52, 3) := by decide +kernel
theorem dX1_suspectRooms_17 : decode cX1_suspectRooms 17 = .ok (.astore_n 3, 1) := by decide +kernel
theorem dX1_suspectRooms_18 : decode cX1_suspectRooms 18 = .ok (.iload_n 1, 1) := by decide +kernel
theorem dX1_suspectRooms_19 : decode cX1_suspectRooms 19 = .ok (.aload_n 3, 1) := by decide +kernel
theorem dX1_suspectRooms_20 : decode cX1_suspectRooms 20 = .ok (.ifnull 15, 3) := by decide +kernel
theorem dX1_suspectRooms_23 : decode cX1_suspectRooms 23 = .ok (.aload_n 0, 1) := by decide +kernel
theorem dX1_suspectRooms_24 : decode cX1_suspectRooms 24 = .ok (.aload_n 3, 1) := by decide +kernel
theorem dX1_suspectRooms_25 : decode cX1_suspectRooms 25 = .ok (.invokevirtual 87, 3) := by decide +kernel
theorem dX1_suspectRooms_28 : decode cX1_suspectRooms 28 = .ok (.ifCond .eq 7, 3) := by decide +kernel
theorem dX1_suspectRooms_31 : decode cX1_suspectRooms 31 = .ok (.iconst 1, 1) := by decide +kernel
theorem dX1_suspectRooms_32 : decode cX1_suspectRooms 32 = .ok (.goto 4, 3) := by decide +kernel
theorem dX1_suspectRooms_35 : decode cX1_suspectRooms 35 = .ok (.iconst 0, 1) := by decide +kernel
theorem dX1_suspectRooms_36 : decode cX1_suspectRooms 36 = .ok (.iadd, 1) := by decide +kernel
theorem dX1_suspectRooms_37 : decode cX1_suspectRooms 37 = .ok (.istore_n 1, 1) := by decide +kernel
theorem dX1_suspectRooms_38 : decode cX1_suspectRooms 38 = .ok (.iinc 2 1, 3) := by decide +kernel
theorem dX1_suspectRooms_41 : decode cX1_suspectRooms 41 = .ok (.goto (-37), 3) := by decide +kernel
theorem dX1_suspectRooms_44 : decode cX1_suspectRooms 44 = .ok (.iload_n 1, 1) := by decide +kernel
theorem dX1_suspectRooms_45 : decode cX1_suspectRooms 45 = .ok (.ireturn, 1) := by decide +kernel
theorem dX1_allFines_0 : decode cX1_allFines 0 = .ok (.iconst 0, 1) := by decide +kernel
theorem dX1_allFines_1 : decode cX1_allFines 1 = .ok (.istore_n 1, 1) := by decide +kernel
theorem dX1_allFines_2 : decode cX1_allFines 2 = .ok (.iconst 0, 1) := by decide +kernel
theorem dX1_allFines_3 : decode cX1_allFines 3 = .ok (.istore_n 2, 1) := by decide +kernel
theorem dX1_allFines_4 : decode cX1_allFines 4 = .ok (.iload_n 2, 1) := by decide +kernel
theorem dX1_allFines_5 : decode cX1_allFines 5 = .ok (.aload_n 0, 1) := by decide +kernel
theorem dX1_allFines_6 : decode cX1_allFines 6 = .ok (.getfield 45, 3) := by decide +kernel
theorem dX1_allFines_9 : decode cX1_allFines 9 = .ok (.if_icmp .ge 30, 3) := by decide +kernel
theorem dX1_allFines_12 : decode cX1_allFines 12 = .ok (.aload_n 0, 1) := by decide +kernel
theorem dX1_allFines_13 : decode cX1_allFines 13 = .ok (.iload_n 2, 1) := by decide +kernel
theorem dX1_allFines_14 : decode cX1_allFines 14 = .ok (.invokevirtual 52, 3) := by decide +kernel
theorem dX1_allFines_17 : decode cX1_allFines 17 = .ok (.astore_n 3, 1) := by decide +kernel
theorem dX1_allFines_18 : decode cX1_allFines 18 = .ok (.iload_n 1, 1) := by decide +kernel
theorem dX1_allFines_19 : decode cX1_allFines 19 = .ok (.aload_n 3, 1) := by decide +kernel
theorem dX1_allFines_20 : decode cX1_allFines 20 = .ok (.ifnull 10, 3) := by decide +kernel
theorem dX1_allFines_23 : decode cX1_allFines 23 = .ok (.aload_n 3, 1) := by decide +kernel
theorem dX1_allFines_24 : decode cX1_allFines 24 = .ok (.getfield 91, 3) := by decide +kernel
theorem dX1_allFines_27 : decode cX1_allFines 27 = .ok (.goto 4, 3) := by decide +kernel
theorem dX1_allFines_30 : decode cX1_allFines 30 = .ok (.iconst 0, 1) := by decide +kernel
theorem dX1_allFines_31 : decode cX1_allFines 31 = .ok (.iadd, 1) := by decide +kernel
theorem dX1_allFines_32 : decode cX1_allFines 32 = .ok (.istore_n 1, 1) := by decide +kernel
theorem dX1_allFines_33 : decode cX1_allFines 33 = .ok (.iinc 2 1, 3) := by decide +kernel
theorem dX1_allFines_36 : decode cX1_allFines 36 = .ok (.goto (-32), 3) := by decide +kernel
theorem dX1_allFines_39 : decode cX1_allFines 39 = .ok (.iload_n 1, 1) := by decide +kernel
theorem dX1_allFines_40 : decode cX1_allFines 40 = .ok (.ireturn, 1) := by decide +kernel
theorem dX1_heatFromHeaters_0 : decode cX1_heatFromHeaters 0 = .ok (.iconst 0, 1) := by decide +kernel
theorem dX1_heatFromHeaters_1 : decode cX1_heatFromHeaters 1 = .ok (.istore_n 1, 1) := by decide +kernel
theorem dX1_heatFromHeaters_2 : decode cX1_heatFromHeaters 2 = .ok (.iconst 0, 1) := by decide +kernel
theorem dX1_heatFromHeaters_3 : decode cX1_heatFromHeaters 3 = .ok (.istore_n 2, 1) := by decide +kernel
theorem dX1_heatFromHeaters_4 : decode cX1_heatFromHeaters 4 = .ok (.iload_n 2, 1) := by decide +kernel
theorem dX1_heatFromHeaters_5 : decode cX1_heatFromHeaters 5 = .ok (.aload_n 0, 1) := by decide +kernel
theorem dX1_heatFromHeaters_6 : decode cX1_heatFromHeaters 6 = .ok (.getfield 45, 3) := by decide +kernel
theorem dX1_heatFromHeaters_9 : decode cX1_heatFromHeaters 9 = .ok (.if_icmp .ge 33, 3) := by decide +kernel
theorem dX1_heatFromHeaters_12 : decode cX1_heatFromHeaters 12 = .ok (.aload_n 0, 1) := by decide +kernel
theorem dX1_heatFromHeaters_13 : decode cX1_heatFromHeaters 13 = .ok (.iload_n 2, 1) := by decide +kernel
theorem dX1_heatFromHeaters_14 : decode cX1_heatFromHeaters 14 = .ok (.invokevirtual 52, 3) := by decide +kernel
theorem dX1_heatFromHeaters_17 : decode cX1_heatFromHeaters 17 = .ok (.astore_n 3, 1) := by decide +kernel
theorem dX1_heatFromHeaters_18 : decode cX1_heatFromHeaters 18 = .ok (.iload_n 1, 1) := by decide +kernel
theorem dX1_heatFromHeaters_19 : decode cX1_heatFromHeaters 19 = .ok (.aload_n 3, 1) := by decide +kernel
theorem dX1_heatFromHeaters_20 : decode cX1_heatFromHeaters 20 = .ok (.ifnull 13, 3) := by decide +kernel
theorem dX1_heatFromHeaters_23 : decode cX1_heatFromHeaters 23 = .ok (.aload_n 3, 1) := by decide +kernel
theorem dX1_heatFromHeaters_24 : decode cX1_heatFromHeaters 24 = .ok (.getfield 94, 3) := by decide +kernel
theorem dX1_heatFromHeaters_27 : decode cX1_heatFromHeaters 27 = .ok (.getfield 98, 3) := by decide +kernel
theorem dX1_heatFromHeaters_30 : decode cX1_heatFromHeaters 30 = .ok (.goto 4, 3) := by decide +kernel
theorem dX1_heatFromHeaters_33 : decode cX1_heatFromHeaters 33 = .ok (.iconst 0, 1) := by decide +kernel
theorem dX1_heatFromHeaters_34 : decode cX1_heatFromHeaters 34 = .ok (.iadd, 1) := by decide +kernel
theorem dX1_heatFromHeaters_35 : decode cX1_heatFromHeaters 35 = .ok (.istore_n 1, 1) := by decide +kernel
theorem dX1_heatFromHeaters_36 : decode cX1_heatFromHeaters 36 = .ok (.iinc 2 1, 3) := by decide +kernel
theorem dX1_heatFromHeaters_39 : decode cX1_heatFromHeaters 39 = .ok (.goto (-35), 3) := by decide +kernel
theorem dX1_heatFromHeaters_42 : decode cX1_heatFromHeaters 42 = .ok (.iload_n 1, 1) := by decide +kernel
theorem dX1_heatFromHeaters_43 : decode cX1_heatFromHeaters 43 = .ok (.ireturn, 1) := by decide +kernel
theorem dX1_passMinutes_0 : decode cX1_passMinutes 0 = .ok (.iconst 0, 1) := by decide +kernel
theorem dX1_passMinutes_1 : decode cX1_passMinutes 1 = .ok (.istore_n 2, 1) := by decide +kernel
theorem dX1_passMinutes_2 : decode cX1_passMinutes 2 = .ok (.iconst 0, 1) := by decide +kernel
theorem dX1_passMinutes_3 : decode cX1_passMinutes 3 = .ok (.istore_n 3, 1) := by decide +kernel
theorem dX1_passMinutes_4 : decode cX1_passMinutes 4 = .ok (.iload_n 3, 1) := by decide +kernel
theorem dX1_passMinutes_5 : decode cX1_passMinutes 5 = .ok (.iload_n 1, 1) := by decide +kernel
theorem dX1_passMinutes_6 : decode cX1_passMinutes 6 = .ok (.if_icmp .ge 16, 3) := by decide +kernel
theorem dX1_passMinutes_9 : decode cX1_passMinutes 9 = .ok (.iload_n 2, 1) := by decide +kernel
theorem dX1_passMinutes_10 : decode cX1_passMinutes 10 = .ok (.aload_n 0, 1) := by decide +kernel
theorem dX1_passMinutes_11 : decode cX1_passMinutes 11 = .ok (.invokevirtual 103, 3) := by decide +kernel
theorem dX1_passMinutes_14 : decode cX1_passMinutes 14 = .ok (.iadd, 1) := by decide +kernel
theorem dX1_passMinutes_15 : decode cX1_passMinutes 15 = .ok (.istore_n 2, 1) := by decide +kernel
theorem dX1_passMinutes_16 : decode cX1_passMinutes 16 = .ok (.iinc 3 1, 3) := by decide +kernel
theorem dX1_passMinutes_19 : decode cX1_passMinutes 19 = .ok (.goto (-15), 3) := by decide +kernel
theorem dX1_passMinutes_22 : decode cX1_passMinutes 22 = .ok (.iload_n 2, 1) := by decide +kernel
theorem dX1_passMinutes_23 : decode cX1_passMinutes 23 = .ok (.ireturn, 1) := by decide +kernel
theorem dX1_passMinute_0 : decode cX1_passMinute 0 = .ok (.aload_n 0, 1) := by decide +kernel
theorem dX1_passMinute_1 : decode cX1_passMinute 1 = .ok (.invokevirtual 107, 3) := by decide +kernel
theorem dX1_passMinute_4 : decode cX1_passMinute 4 = .ok (.aload_n 0, 1) := by decide +kernel
theorem dX1_passMinute_5 : decode cX1_passMinute 5 = .ok (.invokevirtual 110, 3) := by decide +kernel
theorem dX1_passMinute_8 : decode cX1_passMinute 8 = .ok (.iconst 0, 1) := by decide +kernel
theorem dX1_passMinute_9 : decode cX1_passMinute 9 = .ok (.istore_n 1, 1) := by decide +kernel
theorem dX1_passMinute_10 : decode cX1_passMinute 10 = .ok (.iconst 0, 1) := by decide +kernel
theorem dX1_passMinute_11 : decode cX1_passMinute 11 = .ok (.istore_n 2, 1) := by decide +kernel
theorem dX1_passMinute_12 : decode cX1_passMinute 12 = .ok (.iload_n 2, 1) := by decide +kernel
theorem dX1_passMinute_13 : decode cX1_passMinute 13 = .ok (.aload_n 0, 1) := by decide +kernel
theorem dX1_passMinute_14 : decode cX1_passMinute 14 = .ok (.getfield 45, 3) := by decide +kernel
theorem dX1_passMinute_17 : decode cX1_passMinute 17 = .ok (.if_icmp .ge 30, 3) := by decide +kernel
theorem dX1_passMinute_20 : decode cX1_passMinute 20 = .ok (.aload_n 0, 1) := by decide +kernel
theorem dX1_passMinute_21 : decode cX1_passMinute 21 = .ok (.iload_n 2, 1) := by decide +kernel
theorem dX1_passMinute_22 : decode cX1_passMinute 22 = .ok (.invokevirtual 52, 3) := by decide +kernel
theorem dX1_passMinute_25 : decode cX1_passMinute 25 = .ok (.astore_n 3, 1) := by decide +kernel
theorem dX1_passMinute_26 : decode cX1_passMinute 26 = .ok (.aload_n 3, 1) := by decide +kernel
theorem dX1_passMinute_27 : decode cX1_passMinute 27 = .ok (.ifnull 14, 3) := by decide +kernel
theorem dX1_passMinute_30 : decode cX1_passMinute 30 = .ok (.aload_n 0, 1) := by decide +kernel
theorem dX1_passMinute_31 : decode cX1_passMinute 31 = .ok (.aload_n 3, 1) := by decide +kernel
theorem dX1_passMinute_32 : decode cX1_passMinute 32 = .ok (.invokevirtual 113, 3) := by decide +kernel
theorem dX1_passMinute_35 : decode cX1_passMinute 35 = .ok (.ifCond .eq 6, 3) := by decide +kernel
theorem dX1_passMinute_38 : decode cX1_passMinute 38 = .ok (.iinc 1 1, 3) := by decide +kernel
theorem dX1_passMinute_41 : decode cX1_passMinute 41 = .ok (.iinc 2 1, 3) := by decide +kernel
theorem dX1_passMinute_44 : decode cX1_passMinute 44 = .ok (.goto (-32), 3) := by decide +kernel
theorem dX1_passMinute_47 : decode cX1_passMinute 47 = .ok (.aload_n 0, 1) := by decide +kernel
theorem dX1_passMinute_48 : decode cX1_passMinute 48 = .ok (.dup, 1) := by decide +kernel
theorem dX1_passMinute_49 : decode cX1_passMinute 49 = .ok (.getfield 49, 3) := by decide +kernel
theorem dX1_passMinute_52 : decode cX1_passMinute 52 = .ok (.iconst 1, 1) := by decide +kernel
theorem dX1_passMinute_53 : decode cX1_passMinute 53 = .ok (.iadd, 1) := by decide +kernel
theorem dX1_passMinute_54 : decode cX1_passMinute 54 = .ok (.putfield 49, 3) := by decide +kernel
theorem dX1_passMinute_57 : decode cX1_passMinute 57 = .ok (.iload_n 1, 1) := by decide +kernel
theorem dX1_passMinute_58 : decode cX1_passMinute 58 = .ok (.ireturn, 1) := by decide +kernel
theorem dX1_heatRooms_0 : decode cX1_heatRooms 0 = .ok (.aload_n 0, 1) := by decide +kernel
theorem dX1_heatRooms_1 : decode cX1_heatRooms 1 = .ok (.getfield 27, 3) := by decide +kernel
theorem dX1_heatRooms_4 : decode cX1_heatRooms 4 = .ok (.aload_n 0, 1) := by decide +kernel
theorem dX1_heatRooms_5 : decode cX1_heatRooms 5 = .ok (.getfield 49, 3) := by decide +kernel
theorem dX1_heatRooms_8 : decode cX1_heatRooms 8 = .ok (.invokevirtual 116, 3) := by decide +kernel
theorem dX1_heatRooms_11 : decode cX1_heatRooms 11 = .ok (.istore_n 1, 1) := by decide +kernel
theorem dX1_heatRooms_12 : decode cX1_heatRooms 12 = .ok (.iconst 0, 1) := by decide +kernel
theorem dX1_heatRooms_13 : decode cX1_heatRooms 13 = .ok (.istore_n 2, 1) := by decide +kernel
theorem dX1_heatRooms_14 : decode cX1_heatRooms 14 = .ok (.iload_n 2, 1) := by decide +kernel
theorem dX1_heatRooms_15 : decode cX1_heatRooms 15 = .ok (.aload_n 0, 1) := by decide +kernel
theorem dX1_heatRooms_16 : decode cX1_heatRooms 16 = .ok (.getfield 45, 3) := by decide +kernel
theorem dX1_heatRooms_19 : decode cX1_heatRooms 19 = .ok (.if_icmp .ge 24, 3) := by decide +kernel
theorem dX1_heatRooms_22 : decode cX1_heatRooms 22 = .ok (.aload_n 0, 1) := by decide +kernel
theorem dX1_heatRooms_23 : decode cX1_heatRooms 23 = .ok (.iload_n 2, 1) := by decide +kernel
theorem dX1_heatRooms_24 : decode cX1_heatRooms 24 = .ok (.invokevirtual 52, 3) := by decide +kernel
theorem dX1_heatRooms_27 : decode cX1_heatRooms 27 = .ok (.astore_n 3, 1) := by decide +kernel
theorem dX1_heatRooms_28 : decode cX1_heatRooms 28 = .ok (.aload_n 3, 1) := by decide +kernel
theorem dX1_heatRooms_29 : decode cX1_heatRooms 29 = .ok (.ifnull 8, 3) := by decide +kernel
theorem dX1_heatRooms_32 : decode cX1_heatRooms 32 = .ok (.aload_n 3, 1) := by decide +kernel
theorem dX1_heatRooms_33 : decode cX1_heatRooms 33 = .ok (.iload_n 1, 1) := by decide +kernel
theorem dX1_heatRooms_34 : decode cX1_heatRooms 34 = .ok (.invokevirtual 119, 3) := by decide +kernel
theorem dX1_heatRooms_37 : decode cX1_heatRooms 37 = .ok (.iinc 2 1, 3) := by decide +kernel
theorem dX1_heatRooms_40 : decode cX1_heatRooms 40 = .ok (.goto (-26), 3) := by decide +kernel
theorem dX1_heatRooms_43 : decode cX1_heatRooms 43 = .ok (.return_, 1) := by decide +kernel
theorem dX1_exchangeHeat_0 : decode cX1_exchangeHeat 0 = .ok (.iconst 0, 1) := by decide +kernel
theorem dX1_exchangeHeat_1 : decode cX1_exchangeHeat 1 = .ok (.istore_n 1, 1) := by decide +kernel
theorem dX1_exchangeHeat_2 : decode cX1_exchangeHeat 2 = .ok (.iload_n 1, 1) := by decide +kernel
theorem dX1_exchangeHeat_3 : decode cX1_exchangeHeat 3 = .ok (.aload_n 0, 1) := by decide +kernel
theorem dX1_exchangeHeat_4 : decode cX1_exchangeHeat 4 = .ok (.getfield 45, 3) := by decide +kernel
theorem dX1_exchangeHeat_7 : decode cX1_exchangeHeat 7 = .ok (.if_icmp .ge 90, 3) := by decide +kernel
theorem dX1_exchangeHeat_10 : decode cX1_exchangeHeat 10 = .ok (.iload_n 1, 1) := by decide +kernel
theorem dX1_exchangeHeat_11 : decode cX1_exchangeHeat 11 = .ok (.iconst 1, 1) := by decide +kernel
theorem dX1_exchangeHeat_12 : decode cX1_exchangeHeat 12 = .ok (.iadd, 1) := by decide +kernel
theorem dX1_exchangeHeat_13 : decode cX1_exchangeHeat 13 = .ok (.istore_n 2, 1) := by decide +kernel
theorem dX1_exchangeHeat_14 : decode cX1_exchangeHeat 14 = .ok (.iload_n 2, 1) := by decide +kernel
theorem dX1_exchangeHeat_15 : decode cX1_exchangeHeat 15 = .ok (.aload_n 0, 1) := by decide +kernel
theorem dX1_exchangeHeat_16 : decode cX1_exchangeHeat 16 = .ok (.getfield 45, 3) := by decide +kernel
theorem dX1_exchangeHeat_19 : decode cX1_exchangeHeat 19 = .ok (.if_icmp .ge 72, 3) := by decide +kernel
theorem dX1_exchangeHeat_22 : decode cX1_exchangeHeat 22 = .ok (.aload_n 0, 1) := by decide +kernel
theorem dX1_exchangeHeat_23 : decode cX1_exchangeHeat 23 = .ok (.iload_n 1, 1) := by decide +kernel
theorem dX1_exchangeHeat_24 : decode cX1_exchangeHeat 24 = .ok (.invokevirtual 52, 3) := by decide +kernel
theorem dX1_exchangeHeat_27 : decode cX1_exchangeHeat 27 = .ok (.astore_n 3, 1) := by decide +kernel
theorem dX1_exchangeHeat_28 : decode cX1_exchangeHeat 28 = .ok (.aload_n 0, 1) := by decide +kernel
theorem dX1_exchangeHeat_29 : decode cX1_exchangeHeat 29 = .ok (.iload_n 2, 1) := by decide +kernel
theorem dX1_exchangeHeat_30 : decode cX1_exchangeHeat 30 = .ok (.invokevirtual 52, 3) := by decide +kernel
theorem dX1_exchangeHeat_33 : decode cX1_exchangeHeat 33 = .ok (.astore 4, 2) := by decide +kernel
theorem dX1_exchangeHeat_35 : decode cX1_exchangeHeat 35 = .ok (.aload_n 3, 1) := by decide +kernel
theorem dX1_exchangeHeat_36 : decode cX1_exchangeHeat 36 = .ok (.ifnull 49, 3) := by decide +kernel
theorem dX1_exchangeHeat_39 : decode cX1_exchangeHeat 39 = .ok (.aload 4, 2) := by decide +kernel
theorem dX1_exchangeHeat_41 : decode cX1_exchangeHeat 41 = .ok (.ifnull 44, 3) := by decide +kernel
theorem dX1_exchangeHeat_44 : decode cX1_exchangeHeat 44 = .ok (.aload_n 3, 1) := by decide +kernel
theorem dX1_exchangeHeat_45 : decode cX1_exchangeHeat 45 = .ok (.getfield 123, 3) := by decide +kernel
theorem dX1_exchangeHeat_48 : decode cX1_exchangeHeat 48 = .ok (.aload 4, 2) := by decide +kernel
theorem dX1_exchangeHeat_50 : decode cX1_exchangeHeat 50 = .ok (.getfield 123, 3) := by decide +kernel
theorem dX1_exchangeHeat_53 : decode cX1_exchangeHeat 53 = .ok (.isub, 1) := by decide +kernel
theorem dX1_exchangeHeat_54 : decode cX1_exchangeHeat 54 = .ok (.istore 5, 2) := by decide +kernel
theorem dX1_exchangeHeat_56 : decode cX1_exchangeHeat 56 = .ok (.aload_n 0, 1) := by decide +kernel
theorem dX1_exchangeHeat_57 : decode cX1_exchangeHeat 57 = .ok (.iload_n 1, 1) := by decide +kernel
theorem dX1_exchangeHeat_58 : decode cX1_exchangeHeat 58 = .ok (.iload_n 2, 1) := by decide +kernel
theorem dX1_exchangeHeat_59 : decode cX1_exchangeHeat 59 = .ok (.invokevirtual 74, 3) := by decide +kernel
theorem dX1_exchangeHeat_62 : decode cX1_exchangeHeat 62 = .ok (.iload 5, 2) := by decide +kernel
theorem dX1_exchangeHeat_64 : decode cX1_exchangeHeat 64 = .ok (.imul, 1) := by decide +kernel
theorem dX1_exchangeHeat_65 : decode cX1_exchangeHeat 65 = .ok (.sipush 1000, 3) := by decide +kernel
theorem dX1_exchangeHeat_68 : decode cX1_exchangeHeat 68 = .ok (.idiv, 1) := by decide +kernel
theorem dX1_exchangeHeat_69 : decode cX1_exchangeHeat 69 = .ok (.istore 6, 2) := by decide +kernel
theorem dX1_exchangeHeat_71 : decode cX1_exchangeHeat 71 = .ok (.aload_n 3, 1) := by decide +kernel
theorem dX1_exchangeHeat_72 : decode cX1_exchangeHeat 72 = .ok (.iload 6, 2) := by decide +kernel
theorem dX1_exchangeHeat_74 : decode cX1_exchangeHeat 74 = .ok (.invokevirtual 126, 3) := by decide +kernel
theorem dX1_exchangeHeat_77 : decode cX1_exchangeHeat 77 = .ok (.aload 4, 2) := by decide +kernel
theorem dX1_exchangeHeat_79 : decode cX1_exchangeHeat 79 = .ok (.iload 6, 2) := by decide +kernel
theorem dX1_exchangeHeat_81 : decode cX1_exchangeHeat 81 = .ok (.ineg, 1) := by decide +kernel
theorem dX1_exchangeHeat_82 : decode cX1_exchangeHeat 82 = .ok (.invokevirtual 126, 3) := by decide +kernel
theorem dX1_exchangeHeat_85 : decode cX1_exchangeHeat 85 = .ok (.iinc 2 1, 3) := by decide +kernel
theorem dX1_exchangeHeat_88 : decode cX1_exchangeHeat 88 = .ok (.goto (-74), 3) := by decide +kernel
theorem dX1_exchangeHeat_91 : decode cX1_exchangeHeat 91 = .ok (.iinc 1 1, 3) := by decide +kernel
theorem dX1_exchangeHeat_94 : decode cX1_exchangeHeat 94 = .ok (.goto (-92), 3) := by decide +kernel
theorem dX1_exchangeHeat_97 : decode cX1_exchangeHeat 97 = .ok (.return_, 1) := by decide +kernel
theorem dX1_settle_0 : decode cX1_settle 0 = .ok (.aload_n 1, 1) := by decide +kernel
theorem dX1_settle_1 : decode cX1_settle 1 = .ok (.getfield 129, 3) := by decide +kernel
theorem dX1_settle_4 : decode cX1_settle 4 = .ok (.istore_n 2, 1) := by decide +kernel
theorem dX1_settle_5 : decode cX1_settle 5 = .ok (.aload_n 1, 1) := by decide +kernel
theorem dX1_settle_6 : decode cX1_settle 6 = .ok (.invokevirtual 133, 3) := by decide +kernel
theorem dX1_settle_9 : decode cX1_settle 9 = .ok (.istore_n 3, 1) := by decide +kernel
theorem dX1_settle_10 : decode cX1_settle 10 = .ok (.iload_n 3, 1) := by decide +kernel
theorem dX1_settle_11 : decode cX1_settle 11 = .ok (.aload_n 0, 1) := by decide +kernel
theorem dX1_settle_12 : decode cX1_settle 12 = .ok (.iconst 5, 1) := by decide +kernel
theorem dX1_settle_13 : decode cX1_settle 13 = .ok (.invokevirtual 83, 3) := by decide +kernel
theorem dX1_settle_16 : decode cX1_settle 16 = .ok (.if_icmp .le 8, 3) := by decide +kernel
theorem dX1_settle_19 : decode cX1_settle 19 = .ok (.aload_n 1, 1) := by decide +kernel
theorem dX1_settle_20 : decode cX1_settle 20 = .ok (.iconst 1, 1) := by decide +kernel
theorem dX1_settle_21 : decode cX1_settle 21 = .ok (.putfield 136, 3) := by decide +kernel
theorem dX1_settle_24 : decode cX1_settle 24 = .ok (.aload_n 1, 1) := by decide +kernel
theorem dX1_settle_25 : decode cX1_settle 25 = .ok (.dup, 1) := by decide +kernel
theorem dX1_settle_26 : decode cX1_settle 26 = .ok (.getfield 139, 3) := by decide +kernel
theorem dX1_settle_29 : decode cX1_settle 29 = .ok (.iload_n 3, 1) := by decide +kernel
theorem dX1_settle_30 : decode cX1_settle 30 = .ok (.aload_n 1, 1) := by decide +kernel
theorem dX1_settle_31 : decode cX1_settle 31 = .ok (.getfield 139, 3) := by decide +kernel
theorem dX1_settle_34 : decode cX1_settle 34 = .ok (.isub, 1) := by decide +kernel
theorem dX1_settle_35 : decode cX1_settle 35 = .ok (.aload_n 0, 1) := by decide +kernel
theorem dX1_settle_36 : decode cX1_settle 36 = .ok (.iconst 0, 1) := by decide +kernel
theorem dX1_settle_37 : decode cX1_settle 37 = .ok (.invokevirtual 83, 3) := by decide +kernel
theorem dX1_settle_40 : decode cX1_settle 40 = .ok (.imul, 1) := by decide +kernel
theorem dX1_settle_41 : decode cX1_settle 41 = .ok (.bipush 100, 2) := by decide +kernel
theorem dX1_settle_43 : decode cX1_settle 43 = .ok (.idiv, 1) := by decide +kernel
theorem dX1_settle_44 : decode cX1_settle 44 = .ok (.iadd, 1) := by decide +kernel
theorem dX1_settle_45 : decode cX1_settle 45 = .ok (.putfield 139, 3) := by decide +kernel
theorem dX1_settle_48 : decode cX1_settle 48 = .ok (.aload_n 1, 1) := by decide +kernel
theorem dX1_settle_49 : decode cX1_settle 49 = .ok (.getfield 129, 3) := by decide +kernel
theorem dX1_settle_52 : decode cX1_settle 52 = .ok (.ifCond .ne 18, 3) := by decide +kernel
theorem dX1_settle_55 : decode cX1_settle 55 = .ok (.aload_n 1, 1) := by decide +kernel
theorem dX1_settle_56 : decode cX1_settle 56 = .ok (.invokevirtual 142, 3) := by decide +kernel
theorem dX1_settle_59 : decode cX1_settle 59 = .ok (.ifCond .eq 11, 3) := by decide +kernel
theorem dX1_settle_62 : decode cX1_settle 62 = .ok (.aload_n 0, 1) := by decide +kernel
theorem dX1_settle_63 : decode cX1_settle 63 = .ok (.aload_n 1, 1) := by decide +kernel
theorem dX1_settle_64 : decode cX1_settle 64 = .ok (.invokevirtual 146, 3) := by decide +kernel
theorem dX1_settle_67 : decode cX1_settle 67 = .ok (.goto 26, 3) := by decide +kernel
theorem dX1_settle_70 : decode cX1_settle 70 = .ok (.aload_n 1, 1) := by decide +kernel
theorem dX1_settle_71 : decode cX1_settle 71 = .ok (.getfield 129, 3) := by decide +kernel
theorem dX1_settle_74 : decode cX1_settle 74 = .ok (.ifCond .eq 19, 3) := by decide +kernel
theorem dX1_settle_77 : decode cX1_settle 77 = .ok (.aload_n 1, 1) := by decide +kernel
theorem dX1_settle_78 : decode cX1_settle 78 = .ok (.invokevirtual 149, 3) := by decide +kernel
theorem dX1_settle_81 : decode cX1_settle 81 = .ok (.ifCond .eq 12, 3) := by decide +kernel
theorem dX1_settle_84 : decode cX1_settle 84 = .ok (.aload_n 1, 1) := by decide +kernel
theorem dX1_settle_85 : decode cX1_settle 85 = .ok (.aload_n 0, 1) := by decide +kernel
theorem dX1_settle_86 : decode cX1_settle 86 = .ok (.iconst 2, 1) := by decide +kernel
theorem dX1_settle_87 : decode cX1_settle 87 = .ok (.invokevirtual 83, 3) := by decide +kernel
theorem dX1_settle_90 : decode cX1_settle 90 = .ok (.invokevirtual 152, 3) := by decide +kernel
theorem dX1_settle_93 : decode cX1_settle 93 = .ok (.aload_n 1, 1) := by decide +kernel
theorem dX1_settle_94 : decode cX1_settle 94 = .ok (.aload_n 1, 1) := by decide +kernel
theorem dX1_settle_95 : decode cX1_settle 95 = .ok (.getfield 129, 3) := by decide +kernel
theorem dX1_settle_98 : decode cX1_settle 98 = .ok (.ifCond .eq 19, 3) := by decide +kernel
theorem dX1_settle_101 : decode cX1_settle 101 = .ok (.aload_n 1, 1) := by decide +kernel
theorem dX1_settle_102 : decode cX1_settle 102 = .ok (.invokevirtual 149, 3) := by decide +kernel
theorem dX1_settle_105 : decode cX1_settle 105 = .ok (.ifCond .eq 12, 3) := by decide +kernel
theorem dX1_settle_108 : decode cX1_settle 108 = .ok (.aload_n 1, 1) := by decide +kernel
theorem dX1_settle_109 : decode cX1_settle 109 = .ok (.getfield 80, 3) := by decide +kernel
theorem dX1_settle_112 : decode cX1_settle 112 = .ok (.iconst 1, 1) := by decide +kernel
theorem dX1_settle_113 : decode cX1_settle 113 = .ok (.iadd, 1) := by decide +kernel
theorem dX1_settle_114 : decode cX1_settle 114 = .ok (.goto 4, 3) := by decide +kernel
theorem dX1_settle_117 : decode cX1_settle 117 = .ok (.iconst 0, 1) := by decide +kernel
theorem dX1_settle_118 : decode cX1_settle 118 = .ok (.putfield 80, 3) := by decide +kernel
theorem dX1_settle_121 : decode cX1_settle 121 = .ok (.aload_n 1, 1) := by decide +kernel
theorem dX1_settle_122 : decode cX1_settle 122 = .ok (.getfield 129, 3) := by decide +kernel
theorem dX1_settle_125 : decode cX1_settle 125 = .ok (.iload_n 2, 1) := by decide +kernel
theorem dX1_settle_126 : decode cX1_settle 126 = .ok (.if_icmp .eq 7, 3) := by decide +kernel
theorem dX1_settle_129 : decode cX1_settle 129 = .ok (.iconst 1, 1) := by decide +kernel
theorem dX1_settle_130 : decode cX1_settle 130 = .ok (.goto 4, 3) := by decide +kernel
theorem dX1_settle_133 : decode cX1_settle 133 = .ok (.iconst 0, 1) := by decide +kernel
theorem dX1_settle_134 : decode cX1_settle 134 = .ok (.ireturn, 1) := by decide +kernel
theorem dX1_close_0 : decode cX1_close 0 = .ok (.aload_n 1, 1) := by decide +kernel
theorem dX1_close_1 : decode cX1_close 1 = .ok (.getfield 155, 3) := by decide +kernel
theorem dX1_close_4 : decode cX1_close 4 = .ok (.ifCond .le 34, 3) := by decide +kernel
theorem dX1_close_7 : decode cX1_close 7 = .ok (.aload_n 0, 1) := by decide +kernel
theorem dX1_close_8 : decode cX1_close 8 = .ok (.getfield 49, 3) := by decide +kernel
theorem dX1_close_11 : decode cX1_close 11 = .ok (.aload_n 1, 1) := by decide +kernel
theorem dX1_close_12 : decode cX1_close 12 = .ok (.getfield 158, 3) := by decide +kernel
theorem dX1_close_15 : decode cX1_close 15 = .ok (.isub, 1) := by decide +kernel
theorem dX1_close_16 : decode cX1_close 16 = .ok (.aload_n 0, 1) := by decide +kernel
theorem dX1_close_17 : decode cX1_close 17 = .ok (.iconst 3, 1) := by decide +kernel
theorem dX1_close_18 : decode cX1_close 18 = .ok (.invokevirtual 83, 3) := by decide +kernel
theorem dX1_close_21 : decode cX1_close 21 = .ok (.if_icmp .ge 17, 3) := by decide +kernel
theorem dX1_close_24 : decode cX1_close 24 = .ok (.aload_n 1, 1) := by decide +kernel
theorem dX1_close_25 : decode cX1_close 25 = .ok (.dup, 1) := by decide +kernel
theorem dX1_close_26 : decode cX1_close 26 = .ok (.getfield 91, 3) := by decide +kernel
theorem dX1_close_29 : decode cX1_close 29 = .ok (.aload_n 0, 1) := by decide +kernel
theorem dX1_close_30 : decode cX1_close 30 = .ok (.iconst 4, 1) := by decide +kernel
theorem dX1_close_31 : decode cX1_close 31 = .ok (.invokevirtual 83, 3) := by decide +kernel
theorem dX1_close_34 : decode cX1_close 34 = .ok (.iadd, 1) := by decide +kernel
theorem dX1_close_35 : decode cX1_close 35 = .ok (.putfield 91, 3) := by decide +kernel
theorem dX1_close_38 : decode cX1_close 38 = .ok (.aload_n 1, 1) := by decide +kernel
theorem dX1_close_39 : decode cX1_close 39 = .ok (.iconst 1, 1) := by decide +kernel
theorem dX1_close_40 : decode cX1_close 40 = .ok (.putfield 129, 3) := by decide +kernel
theorem dX1_close_43 : decode cX1_close 43 = .ok (.aload_n 1, 1) := by decide +kernel
theorem dX1_close_44 : decode cX1_close 44 = .ok (.dup, 1) := by decide +kernel
theorem dX1_close_45 : decode cX1_close 45 = .ok (.getfield 155, 3) := by decide +kernel
theorem dX1_close_48 : decode cX1_close 48 = .ok (.iconst 1, 1) := by decide +kernel
theorem dX1_close_49 : decode cX1_close 49 = .ok (.iadd, 1) := by decide +kernel
theorem dX1_close_50 : decode cX1_close 50 = .ok (.putfield 155, 3) := by decide +kernel
theorem dX1_close_53 : decode cX1_close 53 = .ok (.aload_n 1, 1) := by decide +kernel
theorem dX1_close_54 : decode cX1_close 54 = .ok (.aload_n 0, 1) := by decide +kernel
theorem dX1_close_55 : decode cX1_close 55 = .ok (.getfield 49, 3) := by decide +kernel
theorem dX1_close_58 : decode cX1_close 58 = .ok (.putfield 158, 3) := by decide +kernel
theorem dX1_close_61 : decode cX1_close 61 = .ok (.aload_n 1, 1) := by decide +kernel
theorem dX1_close_62 : decode cX1_close 62 = .ok (.dup, 1) := by decide +kernel
theorem dX1_close_63 : decode cX1_close 63 = .ok (.getfield 161, 3) := by decide +kernel
theorem dX1_close_66 : decode cX1_close 66 = .ok (.aload_n 1, 1) := by decide +kernel
theorem dX1_close_67 : decode cX1_close 67 = .ok (.getfield 164, 3) := by decide +kernel
theorem dX1_close_70 : decode cX1_close 70 = .ok (.iadd, 1) := by decide +kernel
theorem dX1_close_71 : decode cX1_close 71 = .ok (.putfield 161, 3) := by decide +kernel
theorem dX1_close_74 : decode cX1_close 74 = .ok (.aload_n 1, 1) := by decide +kernel
theorem dX1_close_75 : decode cX1_close 75 = .ok (.getfield 161, 3) := by decide +kernel
theorem dX1_close_78 : decode cX1_close 78 = .ok (.aload_n 0, 1) := by decide +kernel
theorem dX1_close_79 : decode cX1_close 79 = .ok (.iconst 1, 1) := by decide +kernel
theorem dX1_close_80 : decode cX1_close 80 = .ok (.invokevirtual 83, 3) := by decide +kernel
theorem dX1_close_83 : decode cX1_close 83 = .ok (.if_icmp .lt 8, 3) := by decide +kernel
theorem dX1_close_86 : decode cX1_close 86 = .ok (.aload_n 1, 1) := by decide +kernel
theorem dX1_close_87 : decode cX1_close 87 = .ok (.iconst 1, 1) := by decide +kernel
theorem dX1_close_88 : decode cX1_close 88 = .ok (.putfield 167, 3) := by decide +kernel
theorem dX1_close_91 : decode cX1_close 91 = .ok (.return_, 1) := by decide +kernel
theorem dX2_init_0 : decode cX2_init 0 = .ok (.aload_n 0, 1) := by decide +kernel
theorem dX2_init_1 : decode cX2_init 1 = .ok (.invokespecial 3, 3) := by decide +kernel
theorem dX2_init_4 : decode cX2_init 4 = .ok (.aload_n 0, 1) := by decide +kernel
theorem dX2_init_5 : decode cX2_init 5 = .ok (.bipush 6, 2) := by decide +kernel
theorem dX2_init_7 : decode cX2_init 7 = .ok (.anewarray 9, 3) := by decide +kernel
theorem dX2_init_10 : decode cX2_init 10 = .ok (.putfield 11, 3) := by decide +kernel
theorem dX2_init_13 : decode cX2_init 13 = .ok (.iconst 0, 1) := by decide +kernel
theorem dX2_init_14 : decode cX2_init 14 = .ok (.istore_n 1, 1) := by decide +kernel
theorem dX2_init_15 : decode cX2_init 15 = .ok (.iload_n 1, 1) := by decide +kernel
theorem dX2_init_16 : decode cX2_init 16 = .ok (.aload_n 0, 1) := by decide +kernel
theorem dX2_init_17 : decode cX2_init 17 = .ok (.getfield 11, 3) := by decide +kernel
theorem dX2_init_20 : decode cX2_init 20 = .ok (.arraylength, 1) := by decide +kernel
theorem dX2_init_21 : decode cX2_init 21 = .ok (.if_icmp .ge 22, 3) := by decide +kernel
theorem dX2_init_24 : decode cX2_init 24 = .ok (.aload_n 0, 1) := by decide +kernel
theorem dX2_init_25 : decode cX2_init 25 = .ok (.getfield 11, 3) := by decide +kernel
theorem dX2_init_28 : decode cX2_init 28 = .ok (.iload_n 1, 1) := by decide +kernel
theorem dX2_init_29 : decode cX2_init 29 = .ok (.new 9, 3) := by decide +kernel
theorem dX2_init_32 : decode cX2_init 32 = .ok (.dup, 1) := by decide +kernel
theorem dX2_init_33 : decode cX2_init 33 = .ok (.invokespecial 17, 3) := by decide +kernel
theorem dX2_init_36 : decode cX2_init 36 = .ok (.aastore, 1) := by decide +kernel
theorem dX2_init_37 : decode cX2_init 37 = .ok (.iinc 1 1, 3) := by decide +kernel
theorem dX2_init_40 : decode cX2_init 40 = .ok (.goto (-25), 3) := by decide +kernel
theorem dX2_init_43 : decode cX2_init 43 = .ok (.return_, 1) := by decide +kernel
theorem dX2_save_0 : decode cX2_save 0 = .ok (.aload_n 0, 1) := by decide +kernel
theorem dX2_save_1 : decode cX2_save 1 = .ok (.aload_n 0, 1) := by decide +kernel
theorem dX2_save_2 : decode cX2_save 2 = .ok (.getfield 18, 3) := by decide +kernel
theorem dX2_save_5 : decode cX2_save 5 = .ok (.invokevirtual 22, 3) := by decide +kernel
theorem dX2_save_8 : decode cX2_save 8 = .ok (.astore_n 2, 1) := by decide +kernel
theorem dX2_save_9 : decode cX2_save 9 = .ok (.aload_n 2, 1) := by decide +kernel
theorem dX2_save_10 : decode cX2_save 10 = .ok (.ifnull 36, 3) := by decide +kernel
theorem dX2_save_13 : decode cX2_save 13 = .ok (.aload_n 2, 1) := by decide +kernel
theorem dX2_save_14 : decode cX2_save 14 = .ok (.aload_n 1, 1) := by decide +kernel
theorem dX2_save_15 : decode cX2_save 15 = .ok (.invokevirtual 26, 3) := by decide +kernel
theorem dX2_save_18 : decode cX2_save 18 = .ok (.aload_n 0, 1) := by decide +kernel
theorem dX2_save_19 : decode cX2_save 19 = .ok (.aload_n 0, 1) := by decide +kernel
theorem dX2_save_20 : decode cX2_save 20 = .ok (.getfield 18, 3) := by decide +kernel
theorem dX2_save_23 : decode cX2_save 23 = .ok (.iconst 1, 1) := by decide +kernel
theorem dX2_save_24 : decode cX2_save 24 = .ok (.iadd, 1) := by decide +kernel
theorem dX2_save_25 : decode cX2_save 25 = .ok (.bipush 6, 2) := by decide +kernel
theorem dX2_save_27 : decode cX2_save 27 = .ok (.irem, 1) := by decide +kernel
theorem dX2_save_28 : decode cX2_save 28 = .ok (.putfield 18, 3) := by decide +kernel
theorem dX2_save_31 : decode cX2_save 31 = .ok (.aload_n 0, 1) := by decide +kernel
theorem dX2_save_32 : decode cX2_save 32 = .ok (.aload_n 0, 1) := by decide +kernel
theorem dX2_save_33 : decode cX2_save 33 = .ok (.getfield 30, 3) := by decide +kernel
theorem dX2_save_36 : decode cX2_save 36 = .ok (.iconst 1, 1) := by decide +kernel
theorem dX2_save_37 : decode cX2_save 37 = .ok (.iadd, 1) := by decide +kernel
theorem dX2_save_38 : decode cX2_save 38 = .ok (.bipush 6, 2) := by decide +kernel
theorem dX2_save_40 : decode cX2_save 40 = .ok (.invokestatic 33, 3) := by decide +kernel
theorem dX2_save_43 : decode cX2_save 43 = .ok (.putfield 30, 3) := by decide +kernel
theorem dX2_save_46 : decode cX2_save 46 = .ok (.return_, 1) := by decide +kernel
theorem dX2_restore_0 : decode cX2_restore 0 = .ok (.aload_n 0, 1) := by decide +kernel
theorem dX2_restore_1 : decode cX2_restore 1 = .ok (.getfield 18, 3) := by decide +kernel
theorem dX2_restore_4 : decode cX2_restore 4 = .ok (.bipush 6, 2) := by decide +kernel
theorem dX2_restore_6 : decode cX2_restore 6 = .ok (.iadd, 1) := by decide +kernel
theorem dX2_restore_7 : decode cX2_restore 7 = .ok (.iconst 1, 1) := by decide +kernel
theorem dX2_restore_8 : decode cX2_restore 8 = .ok (.isub, 1) := by decide +kernel
theorem dX2_restore_9 : decode cX2_restore 9 = .ok (.bipush 6, 2) := by decide +kernel
theorem dX2_restore_11 : decode cX2_restore 11 = .ok (.irem, 1) := by decide +kernel
theorem dX2_restore_12 : decode cX2_restore 12 = .ok (.istore_n 2, 1) := by decide +kernel
theorem dX2_restore_13 : decode cX2_restore 13 = .ok (.aload_n 0, 1) := by decide +kernel
theorem dX2_restore_14 : decode cX2_restore 14 = .ok (.iload_n 2, 1) := by decide +kernel
theorem dX2_restore_15 : decode cX2_restore 15 = .ok (.invokevirtual 22, 3) := by decide +kernel
theorem dX2_restore_18 : decode cX2_restore 18 = .ok (.astore_n 3, 1) := by decide +kernel
theorem dX2_restore_19 : decode cX2_restore 19 = .ok (.aload_n 3, 1) := by decide +kernel
theorem dX2_restore_20 : decode cX2_restore 20 = .ok (.ifnull 30, 3) := by decide +kernel
theorem dX2_restore_23 : decode cX2_restore 23 = .ok (.aload_n 0, 1) := by decide +kernel
theorem dX2_restore_24 : decode cX2_restore 24 = .ok (.getfield 30, 3) := by decide +kernel
theorem dX2_restore_27 : decode cX2_restore 27 = .ok (.ifCond .le 23, 3) := by decide +kernel
theorem dX2_restore_30 : decode cX2_restore 30 = .ok (.aload_n 1, 1) := by decide +kernel
theorem dX2_restore_31 : decode cX2_restore 31 = .ok (.aload_n 3, 1) := by decide +kernel
theorem dX2_restore_32 : decode cX2_restore 32 = .ok (.invokevirtual 26, 3) := by decide +kernel
theorem dX2_restore_35 : decode cX2_restore 35 = .ok (.aload_n 0, 1) := by decide +kernel
theorem dX2_restore_36 : decode cX2_restore 36 = .ok (.iload_n 2, 1) := by decide +kernel
theorem dX2_restore_37 : decode cX2_restore 37 = .ok (.putfield 18, 3) := by decide +kernel
theorem dX2_restore_40 : decode cX2_restore 40 = .ok (.aload_n 0, 1) := by decide +kernel
theorem dX2_restore_41 : decode cX2_restore 41 = .ok (.dup, 1) := by decide +kernel
theorem dX2_restore_42 : decode cX2_restore 42 = .ok (.getfield 30, 3) := by decide +kernel
theorem dX2_restore_45 : decode cX2_restore 45 = .ok (.iconst 1, 1) := by decide +kernel
theorem dX2_restore_46 : decode cX2_restore 46 = .ok (.isub, 1) := by decide +kernel
theorem dX2_restore_47 : decode cX2_restore 47 = .ok (.putfield 30, 3) := by decide +kernel
theorem dX2_restore_50 : decode cX2_restore 50 = .ok (.return_, 1) := by decide +kernel
theorem dX2_stateAt_0 : decode cX2_stateAt 0 = .ok (.iload_n 1, 1) := by decide +kernel
theorem dX2_stateAt_1 : decode cX2_stateAt 1 = .ok (.ifCond .lt 21, 3) := by decide +kernel
theorem dX2_stateAt_4 : decode cX2_stateAt 4 = .ok (.iload_n 1, 1) := by decide +kernel
theorem dX2_stateAt_5 : decode cX2_stateAt 5 = .ok (.aload_n 0, 1) := by decide +kernel
theorem dX2_stateAt_6 : decode cX2_stateAt 6 = .ok (.getfield 11, 3) := by decide +kernel
theorem dX2_stateAt_9 : decode cX2_stateAt 9 = .ok (.arraylength, 1) := by decide +kernel
theorem dX2_stateAt_10 : decode cX2_stateAt 10 = .ok (.if_icmp .ge 12, 3) := by decide +kernel
theorem dX2_stateAt_13 : decode cX2_stateAt 13 = .ok (.aload_n 0, 1) := by decide +kernel
theorem dX2_stateAt_14 : decode cX2_stateAt 14 = .ok (.getfield 11, 3) := by decide +kernel
theorem dX2_stateAt_17 : decode cX2_stateAt 17 = .ok (.iload_n 1, 1) := by decide +kernel
theorem dX2_stateAt_18 : decode cX2_stateAt 18 = .ok (.aaload, 1) := by decide +kernel
theorem dX2_stateAt_19 : decode cX2_stateAt 19 = .ok (.goto 4, 3) := by decide +kernel
theorem dX2_stateAt_22 : decode cX2_stateAt 22 = .ok (.aconst_null, 1) := by decide +kernel
theorem dX2_stateAt_23 : decode cX2_stateAt 23 = .ok (.areturn, 1) := by decide +kernel
theorem dX3_init_0 : decode cX3_init 0 = .ok (.aload_n 0, 1) := by decide +kernel
theorem dX3_init_1 : decode cX3_init 1 = .ok (.invokespecial 3, 3) := by decide +kernel
theorem dX3_init_4 : decode cX3_init 4 = .ok (.aload_n 0, 1) := by decide +kernel
theorem dX3_init_5 : decode cX3_init 5 = .ok (.new 9, 3) := by decide +kernel
theorem dX3_init_8 : decode cX3_init 8 = .ok (.dup, 1) := by decide +kernel
theorem dX3_init_9 : decode cX3_init 9 = .ok (.invokespecial 11, 3) := by decide +kernel
theorem dX3_init_12 : decode cX3_init 12 = .ok (.putfield 12, 3) := by decide +kernel
theorem dX3_init_15 : decode cX3_init 15 = .ok (.return_, 1) := by decide +kernel
theorem dX3_begin_0 : decode cX3_begin 0 = .ok (.aload_n 0, 1) := by decide +kernel
theorem dX3_begin_1 : decode cX3_begin 1 = .ok (.iload_n 1, 1) := by decide +kernel
theorem dX3_begin_2 : decode cX3_begin 2 = .ok (.putfield 18, 3) := by decide +kernel
theorem dX3_begin_5 : decode cX3_begin 5 = .ok (.aload_n 0, 1) := by decide +kernel
theorem dX3_begin_6 : decode cX3_begin 6 = .ok (.iload_n 2, 1) := by decide +kernel
theorem dX3_begin_7 : decode cX3_begin 7 = .ok (.putfield 22, 3) := by decide +kernel
theorem dX3_begin_10 : decode cX3_begin 10 = .ok (.aload_n 0, 1) := by decide +kernel
theorem dX3_begin_11 : decode cX3_begin 11 = .ok (.iload_n 3, 1) := by decide +kernel
theorem dX3_begin_12 : decode cX3_begin 12 = .ok (.putfield 25, 3) := by decide +kernel
theorem dX3_begin_15 : decode cX3_begin 15 = .ok (.aload_n 0, 1) := by decide +kernel
theorem dX3_begin_16 : decode cX3_begin 16 = .ok (.iload_n 1, 1) := by decide +kernel
theorem dX3_begin_17 : decode cX3_begin 17 = .ok (.iload 4, 2) := by decide +kernel
theorem dX3_begin_19 : decode cX3_begin 19 = .ok (.imul, 1) := by decide +kernel
theorem dX3_begin_20 : decode cX3_begin 20 = .ok (.putfield 28, 3) := by decide +kernel
theorem dX3_begin_23 : decode cX3_begin 23 = .ok (.aload_n 0, 1) := by decide +kernel
theorem dX3_begin_24 : decode cX3_begin 24 = .ok (.sipush 20000, 3) := by decide +kernel
theorem dX3_begin_27 : decode cX3_begin 27 = .ok (.putfield 31, 3) := by decide +kernel
theorem dX3_begin_30 : decode cX3_begin 30 = .ok (.aload_n 0, 1) := by decide +kernel
theorem dX3_begin_31 : decode cX3_begin 31 = .ok (.sipush 1000, 3) := by decide +kernel
theorem dX3_begin_34 : decode cX3_begin 34 = .ok (.putfield 34, 3) := by decide +kernel
theorem dX3_begin_37 : decode cX3_begin 37 = .ok (.aload_n 0, 1) := by decide +kernel
theorem dX3_begin_38 : decode cX3_begin 38 = .ok (.aload_n 0, 1) := by decide +kernel
theorem dX3_begin_39 : decode cX3_begin 39 = .ok (.invokevirtual 37, 3) := by decide +kernel
theorem dX3_begin_42 : decode cX3_begin 42 = .ok (.putfield 41, 3) := by decide +kernel
theorem dX3_begin_45 : decode cX3_begin 45 = .ok (.aload_n 0, 1) := by decide +kernel
theorem dX3_begin_46 : decode cX3_begin 46 = .ok (.iconst 0, 1) := by decide +kernel
theorem dX3_begin_47 : decode cX3_begin 47 = .ok (.putfield 44, 3) := by decide +kernel
theorem dX3_begin_50 : decode cX3_begin 50 = .ok (.aload_n 0, 1) := by decide +kernel
theorem dX3_begin_51 : decode cX3_begin 51 = .ok (.iconst 0, 1) := by decide +kernel
theorem dX3_begin_52 : decode cX3_begin 52 = .ok (.putfield 48, 3) := by decide +kernel
theorem dX3_begin_55 : decode cX3_begin 55 = .ok (.aload_n 0, 1) := by decide +kernel
theorem dX3_begin_56 : decode cX3_begin 56 = .ok (.iconst 0, 1) := by decide +kernel
theorem dX3_begin_57 : decode cX3_begin 57 = .ok (.putfield 51, 3) := by decide +kernel
theorem dX3_begin_60 : decode cX3_begin 60 = .ok (.aload_n 0, 1) := by decide +kernel
theorem dX3_begin_61 : decode cX3_begin 61 = .ok (.iconst 0, 1) := by decide +kernel
theorem dX3_begin_62 : decode cX3_begin 62 = .ok (.putfield 54, 3) := by decide +kernel
theorem dX3_begin_65 : decode cX3_begin 65 = .ok (.aload_n 0, 1) := by decide +kernel
theorem dX3_begin_66 : decode cX3_begin 66 = .ok (.iconst 0, 1) := by decide +kernel
theorem dX3_begin_67 : decode cX3_begin 67 = .ok (.putfield 57, 3) := by decide +kernel
theorem dX3_begin_70 : decode cX3_begin 70 = .ok (.aload_n 0, 1) := by decide +kernel
theorem dX3_begin_71 : decode cX3_begin 71 = .ok (.iconst 0, 1) := by decide +kernel
theorem dX3_begin_72 : decode cX3_begin 72 = .ok (.putfield 60, 3) := by decide +kernel
theorem dX3_begin_75 : decode cX3_begin 75 = .ok (.aload_n 0, 1) := by decide +kernel
theorem dX3_begin_76 : decode cX3_begin 76 = .ok (.ldc 63, 2) := by decide +kernel
theorem dX3_begin_78 : decode cX3_begin 78 = .ok (.putfield 64, 3) := by decide +kernel
theorem dX3_begin_81 : decode cX3_begin 81 = .ok (.aload_n 0, 1) := by decide +kernel
theorem dX3_begin_82 : decode cX3_begin 82 = .ok (.iconst 0, 1) := by decide +kernel
theorem dX3_begin_83 : decode cX3_begin 83 = .ok (.putfield 67, 3) := by decide +kernel
theorem dX3_begin_86 : decode cX3_begin 86 = .ok (.aload_n 0, 1) := by decide +kernel
theorem dX3_begin_87 : decode cX3_begin 87 = .ok (.iconst 0, 1) := by decide +kernel
theorem dX3_begin_88 : decode cX3_begin 88 = .ok (.putfield 70, 3) := by decide +kernel
theorem dX3_begin_91 : decode cX3_begin 91 = .ok (.aload_n 0, 1) := by decide +kernel
theorem dX3_begin_92 : decode cX3_begin 92 = .ok (.iconst 0, 1) := by decide +kernel
theorem dX3_begin_93 : decode cX3_begin 93 = .ok (.putfield 73, 3) := by decide +kernel
theorem dX3_begin_96 : decode cX3_begin 96 = .ok (.aload_n 0, 1) := by decide +kernel
theorem dX3_begin_97 : decode cX3_begin 97 = .ok (.getfield 12, 3) := by decide +kernel
theorem dX3_begin_100 : decode cX3_begin 100 = .ok (.aload_n 0, 1) := by decide +kernel
theorem dX3_begin_101 : decode cX3_begin 101 = .ok (.getfield 28, 3) := by decide +kernel
theorem dX3_begin_104 : decode cX3_begin 104 = .ok (.invokevirtual 76, 3) := by decide +kernel
theorem dX3_begin_107 : decode cX3_begin 107 = .ok (.return_, 1) := by decide +kernel
theorem dX3_copyFrom_0 : decode cX3_copyFrom 0 = .ok (.aload_n 0, 1) := by decide +kernel
theorem dX3_copyFrom_1 : decode cX3_copyFrom 1 = .ok (.getfield 12, 3) := by decide +kernel
theorem dX3_copyFrom_4 : decode cX3_copyFrom 4 = .ok (.aload_n 1, 1) := by decide +kernel
theorem dX3_copyFrom_5 : decode cX3_copyFrom 5 = .ok (.getfield 12, 3) := by decide +kernel
theorem dX3_copyFrom_8 : decode cX3_copyFrom 8 = .ok (.invokevirtual 80, 3) := by decide +kernel
theorem dX3_copyFrom_11 : decode cX3_copyFrom 11 = .ok (.aload_n 0, 1) := by decide +kernel
theorem dX3_copyFrom_12 : decode cX3_copyFrom 12 = .ok (.aload_n 1, 1) := by decide +kernel
theorem dX3_copyFrom_13 : decode cX3_copyFrom 13 = .ok (.getfield 18, 3) := by decide +kernel
theorem dX3_copyFrom_16 : decode cX3_copyFrom 16 = .ok (.putfield 18, 3) := by decide +kernel
theorem dX3_copyFrom_19 : decode cX3_copyFrom 19 = .ok (.aload_n 0, 1) := by decide +kernel
theorem dX3_copyFrom_20 : decode cX3_copyFrom 20 = .ok (.aload_n 1, 1) := by decide +kernel
theorem dX3_copyFrom_21 : decode cX3_copyFrom 21 = .ok (.getfield 22, 3) := by decide +kernel
theorem dX3_copyFrom_24 : decode cX3_copyFrom 24 = .ok (.putfield 22, 3) := by decide +kernel
theorem dX3_copyFrom_27 : decode cX3_copyFrom 27 = .ok (.aload_n 0, 1) := by decide +kernel
theorem dX3_copyFrom_28 : decode cX3_copyFrom 28 = .ok (.aload_n 1, 1) := by decide +kernel
theorem dX3_copyFrom_29 : decode cX3_copyFrom 29 = .ok (.getfield 25, 3) := by decide +kernel
theorem dX3_copyFrom_32 : decode cX3_copyFrom 32 = .ok (.putfield 25, 3) := by decide +kernel
theorem dX3_copyFrom_35 : decode cX3_copyFrom 35 = .ok (.aload_n 0, 1) := by decide +kernel
theorem dX3_copyFrom_36 : decode cX3_copyFrom 36 = .ok (.aload_n 1, 1) := by decide +kernel
theorem dX3_copyFrom_37 : decode cX3_copyFrom 37 = .ok (.getfield 28, 3) := by decide +kernel
theorem dX3_copyFrom_40 : decode cX3_copyFrom 40 = .ok (.putfield 28, 3) := by decide +kernel
theorem dX3_copyFrom_43 : decode cX3_copyFrom 43 = .ok (.aload_n 0, 1) := by decide +kernel
theorem dX3_copyFrom_44 : decode cX3_copyFrom 44 = .ok (.aload_n 1, 1) := by decide +kernel
theorem dX3_copyFrom_45 : decode cX3_copyFrom 45 = .ok (.getfield 31, 3) := by decide +kernel
theorem dX3_copyFrom_48 : decode cX3_copyFrom 48 = .ok (.putfield 31, 3) := by decide +kernel
theorem dX3_copyFrom_51 : decode cX3_copyFrom 51 = .ok (.aload_n 0, 1) := by decide +kernel
theorem dX3_copyFrom_52 : decode cX3_copyFrom 52 = .ok (.aload_n 1, 1) := by decide +kernel
theorem dX3_copyFrom_53 : decode cX3_copyFrom 53 = .ok (.getfield 34, 3) := by decide +kernel
theorem dX3_copyFrom_56 : decode cX3_copyFrom 56 = .ok (.putfield 34, 3) := by decide +kernel
theorem dX3_copyFrom_59 : decode cX3_copyFrom 59 = .ok (.aload_n 0, 1) := by decide +kernel
theorem dX3_copyFrom_60 : decode cX3_copyFrom 60 = .ok (.aload_n 1, 1) := by decide +kernel
theorem dX3_copyFrom_61 : decode cX3_copyFrom 61 = .ok (.getfield 41, 3) := by decide +kernel
theorem dX3_copyFrom_64 : decode cX3_copyFrom 64 = .ok (.putfield 41, 3) := by decide +kernel
theorem dX3_copyFrom_67 : decode cX3_copyFrom 67 = .ok (.aload_n 0, 1) := by decide +kernel
theorem dX3_copyFrom_68 : decode cX3_copyFrom 68 = .ok (.aload_n 1, 1) := by decide +kernel
theorem dX3_copyFrom_69 : decode cX3_copyFrom 69 = .ok (.getfield 44, 3) := by decide +kernel
theorem dX3_copyFrom_72 : decode cX3_copyFrom 72 = .ok (.putfield 44, 3) := by decide +kernel
theorem dX3_copyFrom_75 : decode cX3_copyFrom 75 = .ok (.aload_n 0, 1) := by decide +kernel
theorem dX3_copyFrom_76 : decode cX3_copyFrom 76 = .ok (.aload_n 1, 1) := by decide +kernel
theorem dX3_copyFrom_77 : decode cX3_copyFrom 77 = .ok (.getfield 48, 3) := by decide +kernel
theorem dX3_copyFrom_80 : decode cX3_copyFrom 80 = .ok (.putfield 48, 3) := by decide +kernel
theorem dX3_copyFrom_83 : decode cX3_copyFrom 83 = .ok (.aload_n 0, 1) := by decide +kernel
theorem dX3_copyFrom_84 : decode cX3_copyFrom 84 = .ok (.aload_n 1, 1) := by decide +kernel
theorem dX3_copyFrom_85 : decode cX3_copyFrom 85 = .ok (.getfield 51, 3) := by decide +kernel
theorem dX3_copyFrom_88 : decode cX3_copyFrom 88 = .ok (.putfield 51, 3) := by decide +kernel
theorem dX3_copyFrom_91 : decode cX3_copyFrom 91 = .ok (.aload_n 0, 1) := by decide +kernel
theorem dX3_copyFrom_92 : decode cX3_copyFrom 92 = .ok (.aload_n 1, 1) := by decide +kernel
theorem dX3_copyFrom_93 : decode cX3_copyFrom 93 = .ok (.getfield 54, 3) := by decide +kernel
theorem dX3_copyFrom_96 : decode cX3_copyFrom 96 = .ok (.putfield 54, 3) := by decide +kernel
theorem dX3_copyFrom_99 : decode cX3_copyFrom 99 = .ok (.aload_n 0, 1) := by decide +kernel
theorem dX3_copyFrom_100 : decode cX3_copyFrom 100 = .ok (.aload_n 1, 1) := by decide +kernel
theorem dX3_copyFrom_101 : decode cX3_copyFrom 101 = .ok (.getfield 57, 3) := by decide +kernel
theorem dX3_copyFrom_104 : decode cX3_copyFrom 104 = .ok (.putfield 57, 3) := by decide +kernel
theorem dX3_copyFrom_107 : decode cX3_copyFrom 107 = .ok (.aload_n 0, 1) := by decide +kernel
theorem dX3_copyFrom_108 : decode cX3_copyFrom 108 = .ok (.aload_n 1, 1) := by decide +kernel
theorem dX3_copyFrom_109 : decode cX3_copyFrom 109 = .ok (.getfield 60, 3) := by decide +kernel
theorem dX3_copyFrom_112 : decode cX3_copyFrom 112 = .ok (.putfield 60, 3) := by decide +kernel
theorem dX3_copyFrom_115 : decode cX3_copyFrom 115 = .ok (.aload_n 0, 1) := by decide +kernel
theorem dX3_copyFrom_116 : decode cX3_copyFrom 116 = .ok (.aload_n 1, 1) := by decide +kernel
theorem dX3_copyFrom_117 : decode cX3_copyFrom 117 = .ok (.getfield 64, 3) := by decide +kernel
theorem dX3_copyFrom_120 : decode cX3_copyFrom 120 = .ok (.putfield 64, 3) := by decide +kernel
theorem dX3_copyFrom_123 : decode cX3_copyFrom 123 = .ok (.aload_n 0, 1) := by decide +kernel
theorem dX3_copyFrom_124 : decode cX3_copyFrom 124 = .ok (.aload_n 1, 1) := by decide +kernel
theorem dX3_copyFrom_125 : decode cX3_copyFrom 125 = .ok (.getfield 67, 3) := by decide +kernel
theorem dX3_copyFrom_128 : decode cX3_copyFrom 128 = .ok (.putfield 67, 3) := by decide +kernel
theorem dX3_copyFrom_131 : decode cX3_copyFrom 131 = .ok (.aload_n 0, 1) := by decide +kernel
theorem dX3_copyFrom_132 : decode cX3_copyFrom 132 = .ok (.aload_n 1, 1) := by decide +kernel
theorem dX3_copyFrom_133 : decode cX3_copyFrom 133 = .ok (.getfield 70, 3) := by decide +kernel
theorem dX3_copyFrom_136 : decode cX3_copyFrom 136 = .ok (.putfield 70, 3) := by decide +kernel
theorem dX3_copyFrom_139 : decode cX3_copyFrom 139 = .ok (.aload_n 0, 1) := by decide +kernel
theorem dX3_copyFrom_140 : decode cX3_copyFrom 140 = .ok (.aload_n 1, 1) := by decide +kernel
theorem dX3_copyFrom_141 : decode cX3_copyFrom 141 = .ok (.getfield 73, 3) := by decide +kernel
theorem dX3_copyFrom_144 : decode cX3_copyFrom 144 = .ok (.putfield 73, 3) := by decide +kernel
theorem dX3_copyFrom_147 : decode cX3_copyFrom 147 = .ok (.return_, 1) := by decide +kernel
theorem dX3_temperature_0 : decode cX3_temperature 0 = .ok (.aload_n 0, 1) := by decide +kernel
theorem dX3_temperature_1 : decode cX3_temperature 1 = .ok (.aload_n 0, 1) := by decide +kernel
theorem dX3_temperature_2 : decode cX3_temperature 2 = .ok (.getfield 28, 3) := by decide +kernel
theorem dX3_temperature_5 : decode cX3_temperature 5 = .ok (.invokevirtual 84, 3) := by decide +kernel
theorem dX3_temperature_8 : decode cX3_temperature 8 = .ok (.ireturn, 1) := by decide +kernel
theorem dX3_temperatureWith_0 : decode cX3_temperatureWith 0 = .ok (.aload_n 0, 1) := by decide +kernel
theorem dX3_temperatureWith_1 : decode cX3_temperatureWith 1 = .ok (.getfield 18, 3) := by decide +kernel
theorem dX3_temperatureWith_4 : decode cX3_temperatureWith 4 = .ok (.ifCond .le 18, 3) := by decide +kernel
theorem dX3_temperatureWith_7 : decode cX3_temperatureWith 7 = .ok (.sipush 1000, 3) := by decide +kernel
theorem dX3_temperatureWith_10 : decode cX3_temperatureWith 10 = .ok (.iload_n 1, 1) := by decide +kernel
theorem dX3_temperatureWith_11 : decode cX3_temperatureWith 11 = .ok (.imul, 1) := by decide +kernel
theorem dX3_temperatureWith_12 : decode cX3_temperatureWith 12 = .ok (.aload_n 0, 1) := by decide +kernel
theorem dX3_temperatureWith_13 : decode cX3_temperatureWith 13 = .ok (.getfield 18, 3) := by decide +kernel
theorem dX3_temperatureWith_16 : decode cX3_temperatureWith 16 = .ok (.invokestatic 88, 3) := by decide +kernel
theorem dX3_temperatureWith_19 : decode cX3_temperatureWith 19 = .ok (.goto 4, 3) := by decide +kernel
theorem dX3_temperatureWith_22 : decode cX3_temperatureWith 22 = .ok (.iconst 0, 1) := by decide +kernel
theorem dX3_temperatureWith_23 : decode cX3_temperatureWith 23 = .ok (.ireturn, 1) := by decide +kernel
theorem dX3_isBladeCold_0 : decode cX3_isBladeCold 0 = .ok (.aload_n 0, 1) := by decide +kernel
theorem dX3_isBladeCold_1 : decode cX3_isBladeCold 1 = .ok (.getfield 41, 3) := by decide +kernel
theorem dX3_isBladeCold_4 : decode cX3_isBladeCold 4 = .ok (.aload_n 0, 1) := by decide +kernel
theorem dX3_isBladeCold_5 : decode cX3_isBladeCold 5 = .ok (.getfield 31, 3) := by decide +kernel
theorem dX3_isBladeCold_8 : decode cX3_isBladeCold 8 = .ok (.aload_n 0, 1) := by decide +kernel
theorem dX3_isBladeCold_9 : decode cX3_isBladeCold 9 = .ok (.getfield 34, 3) := by decide +kernel
theorem dX3_isBladeCold_12 : decode cX3_isBladeCold 12 = .ok (.isub, 1) := by decide +kernel
theorem dX3_isBladeCold_13 : decode cX3_isBladeCold 13 = .ok (.if_icmp .gt 7, 3) := by decide +kernel
theorem dX3_isBladeCold_16 : decode cX3_isBladeCold 16 = .ok (.iconst 1, 1) := by decide +kernel
theorem dX3_isBladeCold_17 : decode cX3_isBladeCold 17 = .ok (.goto 4, 3) := by decide +kernel
theorem dX3_isBladeCold_20 : decode cX3_isBladeCold 20 = .ok (.iconst 0, 1) := by decide +kernel
theorem dX3_isBladeCold_21 : decode cX3_isBladeCold 21 = .ok (.ireturn, 1) := by decide +kernel
theorem dX3_isBladeHot_0 : decode cX3_isBladeHot 0 = .ok (.aload_n 0, 1) := by decide +kernel
theorem dX3_isBladeHot_1 : decode cX3_isBladeHot 1 = .ok (.getfield 41, 3) := by decide +kernel
theorem dX3_isBladeHot_4 : decode cX3_isBladeHot 4 = .ok (.aload_n 0, 1) := by decide +kernel
theorem dX3_isBladeHot_5 : decode cX3_isBladeHot 5 = .ok (.getfield 31, 3) := by decide +kernel
theorem dX3_isBladeHot_8 : decode cX3_isBladeHot 8 = .ok (.aload_n 0, 1) := by decide +kernel
theorem dX3_isBladeHot_9 : decode cX3_isBladeHot 9 = .ok (.getfield 34, 3) := by decide +kernel
theorem dX3_isBladeHot_12 : decode cX3_isBladeHot 12 = .ok (.iadd, 1) := by decide +kernel
theorem dX3_isBladeHot_13 : decode cX3_isBladeHot 13 = .ok (.if_icmp .lt 7, 3) := by decide +kernel
theorem dX3_isBladeHot_16 : decode cX3_isBladeHot 16 = .ok (.iconst 1, 1) := by decide +kernel
theorem dX3_isBladeHot_17 : decode cX3_isBladeHot 17 = .ok (.goto 4, 3) := by decide +kernel
theorem dX3_isBladeHot_20 : decode cX3_isBladeHot 20 = .ok (.iconst 0, 1) := by decide +kernel
theorem dX3_isBladeHot_21 : decode cX3_isBladeHot 21 = .ok (.ireturn, 1) := by decide +kernel
theorem dX3_bringIn_0 : decode cX3_bringIn 0 = .ok (.aload_n 0, 1) := by decide +kernel
theorem dX3_bringIn_1 : decode cX3_bringIn 1 = .ok (.dup, 1) := by decide +kernel
theorem dX3_bringIn_2 : decode cX3_bringIn 2 = .ok (.getfield 28, 3) := by decide +kernel
theorem dX3_bringIn_5 : decode cX3_bringIn 5 = .ok (.iload_n 1, 1) := by decide +kernel
theorem dX3_bringIn_6 : decode cX3_bringIn 6 = .ok (.iadd, 1) := by decide +kernel
theorem dX3_bringIn_7 : decode cX3_bringIn 7 = .ok (.putfield 28, 3) := by decide +kernel
theorem dX3_bringIn_10 : decode cX3_bringIn 10 = .ok (.aload_n 0, 1) := by decide +kernel
theorem dX3_bringIn_11 : decode cX3_bringIn 11 = .ok (.getfield 12, 3) := by decide +kernel
theorem dX3_bringIn_14 : decode cX3_bringIn 14 = .ok (.dup, 1) := by decide +kernel
theorem dX3_bringIn_15 : decode cX3_bringIn 15 = .ok (.getfield 94, 3) := by decide +kernel
theorem dX3_bringIn_18 : decode cX3_bringIn 18 = .ok (.iload_n 1, 1) := by decide +kernel
theorem dX3_bringIn_19 : decode cX3_bringIn 19 = .ok (.iadd, 1) := by decide +kernel
theorem dX3_bringIn_20 : decode cX3_bringIn 20 = .ok (.putfield 94, 3) := by decide +kernel
theorem dX3_bringIn_23 : decode cX3_bringIn 23 = .ok (.return_, 1) := by decide +kernel
theorem dX3_beginMinute_0 : decode cX3_beginMinute 0 = .ok (.aload_n 0, 1) := by decide +kernel
theorem dX3_beginMinute_1 : decode cX3_beginMinute 1 = .ok (.aload_n 0, 1) := by decide +kernel
theorem dX3_beginMinute_2 : decode cX3_beginMinute 2 = .ok (.invokevirtual 37, 3) := by decide +kernel
theorem dX3_beginMinute_5 : decode cX3_beginMinute 5 = .ok (.putfield 73, 3) := by decide +kernel
theorem dX3_beginMinute_8 : decode cX3_beginMinute 8 = .ok (.aload_n 0, 1) := by decide +kernel
theorem dX3_beginMinute_9 : decode cX3_beginMinute 9 = .ok (.getfield 44, 3) := by decide +kernel
theorem dX3_beginMinute_12 : decode cX3_beginMinute 12 = .ok (.ifCond .eq 39, 3) := by decide +kernel
theorem dX3_beginMinute_15 : decode cX3_beginMinute 15 = .ok (.aload_n 0, 1) := by decide +kernel
theorem dX3_beginMinute_16 : decode cX3_beginMinute 16 = .ok (.getfield 51, 3) := by decide +kernel
theorem dX3_beginMinute_19 : decode cX3_beginMinute 19 = .ok (.ifCond .ne 32, 3) := by decide +kernel
theorem dX3_beginMinute_22 : decode cX3_beginMinute 22 = .ok (.aload_n 0, 1) := by decide +kernel
theorem dX3_beginMinute_23 : decode cX3_beginMinute 23 = .ok (.dup, 1) := by decide +kernel
theorem dX3_beginMinute_24 : decode cX3_beginMinute 24 = .ok (.getfield 28, 3) := by decide +kernel
theorem dX3_beginMinute_27 : decode cX3_beginMinute 27 = .ok (.aload_n 0, 1) := by decide +kernel
theorem dX3_beginMinute_28 : decode cX3_beginMinute 28 = .ok (.getfield 22, 3) := by decide +kernel
theorem dX3_beginMinute_31 : decode cX3_beginMinute 31 = .ok (.iadd, 1) := by decide +kernel
theorem dX3_beginMinute_32 : decode cX3_beginMinute 32 = .ok (.putfield 28, 3) := by decide +kernel
theorem dX3_beginMinute_35 : decode cX3_beginMinute 35 = .ok (.aload_n 0, 1) := by decide +kernel
theorem dX3_beginMinute_36 : decode cX3_beginMinute 36 = .ok (.getfield 12, 3) := by decide +kernel
theorem dX3_beginMinute_39 : decode cX3_beginMinute 39 = .ok (.dup, 1) := by decide +kernel
theorem dX3_beginMinute_40 : decode cX3_beginMinute 40 = .ok (.getfield 97, 3) := by decide +kernel
theorem dX3_beginMinute_43 : decode cX3_beginMinute 43 = .ok (.aload_n 0, 1) := by decide +kernel
theorem dX3_beginMinute_44 : decode cX3_beginMinute 44 = .ok (.getfield 22, 3) := by decide +kernel
theorem dX3_beginMinute_47 : decode cX3_beginMinute 47 = .ok (.iadd, 1) := by decide +kernel
theorem dX3_beginMinute_48 : decode cX3_beginMinute 48 = .ok (.putfield 97, 3) := by decide +kernel
theorem dX3_beginMinute_51 : decode cX3_beginMinute 51 = .ok (.aload_n 0, 1) := by decide +kernel
theorem dX3_beginMinute_52 : decode cX3_beginMinute 52 = .ok (.getfield 25, 3) := by decide +kernel
theorem dX3_beginMinute_55 : decode cX3_beginMinute 55 = .ok (.aload_n 0, 1) := by decide +kernel
theorem dX3_beginMinute_56 : decode cX3_beginMinute 56 = .ok (.getfield 73, 3) := by decide +kernel
theorem dX3_beginMinute_59 : decode cX3_beginMinute 59 = .ok (.iload_n 1, 1) := by decide +kernel
theorem dX3_beginMinute_60 : decode cX3_beginMinute 60 = .ok (.isub, 1) := by decide +kernel
theorem dX3_beginMinute_61 : decode cX3_beginMinute 61 = .ok (.imul, 1) := by decide +kernel
