theorem dX0_init_0 : decode cX0_init 0 = .ok (.aload_n 0, 1) := by decide +kernel
theorem dX0_init_1 : decode cX0_init 1 = .ok (.invokespecial 3, 3) := by decide +kernel
theorem dX0_init_4 : decode cX0_init 4 = .ok (.aload_n 0, 1) := by decide +kernel
theorem dX0_init_5 : decode cX0_init 5 = .ok (.bipush 6, 2) := by decide +kernel
theorem dX0_init_7 : decode cX0_init 7 = .ok (.anewarray 9, 3) := by decide +kernel
theorem dX0_init_10 : decode cX0_init 10 = .ok (.putfield 11, 3) := by decide +kernel
theorem dX0_init_13 : decode cX0_init 13 = .ok (.aload_n 0, 1) := by decide +kernel
theorem dX0_init_14 : decode cX0_init 14 = .ok (.bipush 6, 2) := by decide +kernel
theorem dX0_init_16 : decode cX0_init 16 = .ok (.newarray .int, 2) := by decide +kernel
theorem dX0_init_18 : decode cX0_init 18 = .ok (.putfield 17, 3) := by decide +kernel
theorem dX0_init_21 : decode cX0_init 21 = .ok (.aload_n 0, 1) := by decide +kernel
theorem dX0_init_22 : decode cX0_init 22 = .ok (.bipush 6, 2) := by decide +kernel
theorem dX0_init_24 : decode cX0_init 24 = .ok (.newarray .int, 2) := by decide +kernel
theorem dX0_init_26 : decode cX0_init 26 = .ok (.putfield 21, 3) := by decide +kernel
theorem dX0_init_29 : decode cX0_init 29 = .ok (.aload_n 0, 1) := by decide +kernel
theorem dX0_init_30 : decode cX0_init 30 = .ok (.aload_n 1, 1) := by decide +kernel
theorem dX0_init_31 : decode cX0_init 31 = .ok (.putfield 24, 3) := by decide +kernel
theorem dX0_init_34 : decode cX0_init 34 = .ok (.iconst 0, 1) := by decide +kernel
theorem dX0_init_35 : decode cX0_init 35 = .ok (.istore_n 3, 1) := by decide +kernel
theorem dX0_init_36 : decode cX0_init 36 = .ok (.iload_n 3, 1) := by decide +kernel
theorem dX0_init_37 : decode cX0_init 37 = .ok (.bipush 6, 2) := by decide +kernel
theorem dX0_init_39 : decode cX0_init 39 = .ok (.if_icmp .ge 23, 3) := by decide +kernel
theorem dX0_init_42 : decode cX0_init 42 = .ok (.aload_n 0, 1) := by decide +kernel
theorem dX0_init_43 : decode cX0_init 43 = .ok (.getfield 11, 3) := by decide +kernel
theorem dX0_init_46 : decode cX0_init 46 = .ok (.iload_n 3, 1) := by decide +kernel
theorem dX0_init_47 : decode cX0_init 47 = .ok (.new 9, 3) := by decide +kernel
theorem dX0_init_50 : decode cX0_init 50 = .ok (.dup, 1) := by decide +kernel
theorem dX0_init_51 : decode cX0_init 51 = .ok (.aload_n 2, 1) := by decide +kernel
theorem dX0_init_52 : decode cX0_init 52 = .ok (.invokespecial 28, 3) := by decide +kernel
theorem dX0_init_55 : decode cX0_init 55 = .ok (.aastore, 1) := by decide +kernel
theorem dX0_init_56 : decode cX0_init 56 = .ok (.iinc 3 1, 3) := by decide +kernel
theorem dX0_init_59 : decode cX0_init 59 = .ok (.goto (-23), 3) := by decide +kernel
theorem dX0_init_62 : decode cX0_init 62 = .ok (.return_, 1) := by decide +kernel
theorem dX0_assign_0 : decode cX0_assign 0 = .ok (.aload_n 0, 1) := by decide +kernel
theorem dX0_assign_1 : decode cX0_assign 1 = .ok (.getfield 24, 3) := by decide +kernel
theorem dX0_assign_4 : decode cX0_assign 4 = .ok (.getfield 31, 3) := by decide +kernel
theorem dX0_assign_7 : decode cX0_assign 7 = .ok (.getfield 37, 3) := by decide +kernel
theorem dX0_assign_10 : decode cX0_assign 10 = .ok (.aload_n 0, 1) := by decide +kernel
theorem dX0_assign_11 : decode cX0_assign 11 = .ok (.getfield 24, 3) := by decide +kernel
theorem dX0_assign_14 : decode cX0_assign 14 = .ok (.getfield 43, 3) := by decide +kernel
theorem dX0_assign_17 : decode cX0_assign 17 = .ok (.getfield 37, 3) := by decide +kernel
theorem dX0_assign_20 : decode cX0_assign 20 = .ok (.if_icmp .eq 6, 3) := by decide +kernel
theorem dX0_assign_23 : decode cX0_assign 23 = .ok (.bipush (-5), 2) := by decide +kernel
theorem dX0_assign_25 : decode cX0_assign 25 = .ok (.ireturn, 1) := by decide +kernel
theorem dX0_assign_26 : decode cX0_assign 26 = .ok (.aload_n 0, 1) := by decide +kernel
theorem dX0_assign_27 : decode cX0_assign 27 = .ok (.aload_n 0, 1) := by decide +kernel
theorem dX0_assign_28 : decode cX0_assign 28 = .ok (.getfield 24, 3) := by decide +kernel
theorem dX0_assign_31 : decode cX0_assign 31 = .ok (.getfield 31, 3) := by decide +kernel
theorem dX0_assign_34 : decode cX0_assign 34 = .ok (.getfield 37, 3) := by decide +kernel
theorem dX0_assign_37 : decode cX0_assign 37 = .ok (.bipush 6, 2) := by decide +kernel
theorem dX0_assign_39 : decode cX0_assign 39 = .ok (.invokestatic 46, 3) := by decide +kernel
theorem dX0_assign_42 : decode cX0_assign 42 = .ok (.putfield 52, 3) := by decide +kernel
theorem dX0_assign_45 : decode cX0_assign 45 = .ok (.aload_n 0, 1) := by decide +kernel
theorem dX0_assign_46 : decode cX0_assign 46 = .ok (.iconst 0, 1) := by decide +kernel
theorem dX0_assign_47 : decode cX0_assign 47 = .ok (.putfield 53, 3) := by decide +kernel
theorem dX0_assign_50 : decode cX0_assign 50 = .ok (.iconst 0, 1) := by decide +kernel
theorem dX0_assign_51 : decode cX0_assign 51 = .ok (.istore_n 1, 1) := by decide +kernel
theorem dX0_assign_52 : decode cX0_assign 52 = .ok (.iload_n 1, 1) := by decide +kernel
theorem dX0_assign_53 : decode cX0_assign 53 = .ok (.aload_n 0, 1) := by decide +kernel
theorem dX0_assign_54 : decode cX0_assign 54 = .ok (.getfield 52, 3) := by decide +kernel
theorem dX0_assign_57 : decode cX0_assign 57 = .ok (.if_icmp .ge 42, 3) := by decide +kernel
theorem dX0_assign_60 : decode cX0_assign 60 = .ok (.iload_n 1, 1) := by decide +kernel
theorem dX0_assign_61 : decode cX0_assign 61 = .ok (.bipush 6, 2) := by decide +kernel
theorem dX0_assign_63 : decode cX0_assign 63 = .ok (.if_icmp .ge 36, 3) := by decide +kernel
theorem dX0_assign_66 : decode cX0_assign 66 = .ok (.aload_n 0, 1) := by decide +kernel
theorem dX0_assign_67 : decode cX0_assign 67 = .ok (.getfield 11, 3) := by decide +kernel
theorem dX0_assign_70 : decode cX0_assign 70 = .ok (.iload_n 1, 1) := by decide +kernel
theorem dX0_assign_71 : decode cX0_assign 71 = .ok (.aaload, 1) := by decide +kernel
theorem dX0_assign_72 : decode cX0_assign 72 = .ok (.aload_n 0, 1) := by decide +kernel
theorem dX0_assign_73 : decode cX0_assign 73 = .ok (.getfield 24, 3) := by decide +kernel
theorem dX0_assign_76 : decode cX0_assign 76 = .ok (.getfield 43, 3) := by decide +kernel
theorem dX0_assign_79 : decode cX0_assign 79 = .ok (.iload_n 1, 1) := by decide +kernel
theorem dX0_assign_80 : decode cX0_assign 80 = .ok (.invokevirtual 56, 3) := by decide +kernel
theorem dX0_assign_83 : decode cX0_assign 83 = .ok (.invokevirtual 60, 3) := by decide +kernel
theorem dX0_assign_86 : decode cX0_assign 86 = .ok (.aload_n 0, 1) := by decide +kernel
theorem dX0_assign_87 : decode cX0_assign 87 = .ok (.getfield 17, 3) := by decide +kernel
theorem dX0_assign_90 : decode cX0_assign 90 = .ok (.iload_n 1, 1) := by decide +kernel
theorem dX0_assign_91 : decode cX0_assign 91 = .ok (.iload_n 1, 1) := by decide +kernel
theorem dX0_assign_92 : decode cX0_assign 92 = .ok (.iastore, 1) := by decide +kernel
theorem dX0_assign_93 : decode cX0_assign 93 = .ok (.iinc 1 1, 3) := by decide +kernel
theorem dX0_assign_96 : decode cX0_assign 96 = .ok (.goto (-44), 3) := by decide +kernel
theorem dX0_assign_99 : decode cX0_assign 99 = .ok (.iconst 1, 1) := by decide +kernel
theorem dX0_assign_100 : decode cX0_assign 100 = .ok (.istore_n 1, 1) := by decide +kernel
theorem dX0_assign_101 : decode cX0_assign 101 = .ok (.iconst 0, 1) := by decide +kernel
theorem dX0_assign_102 : decode cX0_assign 102 = .ok (.istore_n 2, 1) := by decide +kernel
theorem dX0_assign_103 : decode cX0_assign 103 = .ok (.iload_n 2, 1) := by decide +kernel
theorem dX0_assign_104 : decode cX0_assign 104 = .ok (.sipush 720, 3) := by decide +kernel
theorem dX0_assign_107 : decode cX0_assign 107 = .ok (.if_icmp .ge 22, 3) := by decide +kernel
theorem dX0_assign_110 : decode cX0_assign 110 = .ok (.iload_n 1, 1) := by decide +kernel
theorem dX0_assign_111 : decode cX0_assign 111 = .ok (.ifCond .eq 18, 3) := by decide +kernel
theorem dX0_assign_114 : decode cX0_assign 114 = .ok (.aload_n 0, 1) := by decide +kernel
theorem dX0_assign_115 : decode cX0_assign 115 = .ok (.invokevirtual 64, 3) := by decide +kernel
theorem dX0_assign_118 : decode cX0_assign 118 = .ok (.aload_n 0, 1) := by decide +kernel
theorem dX0_assign_119 : decode cX0_assign 119 = .ok (.invokevirtual 67, 3) := by decide +kernel
theorem dX0_assign_122 : decode cX0_assign 122 = .ok (.istore_n 1, 1) := by decide +kernel
theorem dX0_assign_123 : decode cX0_assign 123 = .ok (.iinc 2 1, 3) := by decide +kernel
theorem dX0_assign_126 : decode cX0_assign 126 = .ok (.goto (-23), 3) := by decide +kernel
theorem dX0_assign_129 : decode cX0_assign 129 = .ok (.aload_n 0, 1) := by decide +kernel
theorem dX0_assign_130 : decode cX0_assign 130 = .ok (.getfield 53, 3) := by decide +kernel
theorem dX0_assign_133 : decode cX0_assign 133 = .ok (.ifCond .ne 8, 3) := by decide +kernel
theorem dX0_assign_136 : decode cX0_assign 136 = .ok (.bipush (-6), 2) := by decide +kernel
theorem dX0_assign_138 : decode cX0_assign 138 = .ok (.goto 4, 3) := by decide +kernel
theorem dX0_assign_141 : decode cX0_assign 141 = .ok (.iconst 0, 1) := by decide +kernel
theorem dX0_assign_142 : decode cX0_assign 142 = .ok (.ireturn, 1) := by decide +kernel
theorem dX0_slotOf_0 : decode cX0_slotOf 0 = .ok (.iload_n 1, 1) := by decide +kernel
theorem dX0_slotOf_1 : decode cX0_slotOf 1 = .ok (.ifCond .lt 18, 3) := by decide +kernel
theorem dX0_slotOf_4 : decode cX0_slotOf 4 = .ok (.iload_n 1, 1) := by decide +kernel
theorem dX0_slotOf_5 : decode cX0_slotOf 5 = .ok (.bipush 6, 2) := by decide +kernel
theorem dX0_slotOf_7 : decode cX0_slotOf 7 = .ok (.if_icmp .ge 12, 3) := by decide +kernel
theorem dX0_slotOf_10 : decode cX0_slotOf 10 = .ok (.aload_n 0, 1) := by decide +kernel
theorem dX0_slotOf_11 : decode cX0_slotOf 11 = .ok (.getfield 21, 3) := by decide +kernel
theorem dX0_slotOf_14 : decode cX0_slotOf 14 = .ok (.iload_n 1, 1) := by decide +kernel
theorem dX0_slotOf_15 : decode cX0_slotOf 15 = .ok (.iaload, 1) := by decide +kernel
theorem dX0_slotOf_16 : decode cX0_slotOf 16 = .ok (.goto 4, 3) := by decide +kernel
theorem dX0_slotOf_19 : decode cX0_slotOf 19 = .ok (.iconst (-1), 1) := by decide +kernel
theorem dX0_slotOf_20 : decode cX0_slotOf 20 = .ok (.ireturn, 1) := by decide +kernel
theorem dX0_timeOf_0 : decode cX0_timeOf 0 = .ok (.aload_n 0, 1) := by decide +kernel
theorem dX0_timeOf_1 : decode cX0_timeOf 1 = .ok (.iload_n 1, 1) := by decide +kernel
theorem dX0_timeOf_2 : decode cX0_timeOf 2 = .ok (.aload_n 0, 1) := by decide +kernel
theorem dX0_timeOf_3 : decode cX0_timeOf 3 = .ok (.iload_n 1, 1) := by decide +kernel
theorem dX0_timeOf_4 : decode cX0_timeOf 4 = .ok (.invokevirtual 71, 3) := by decide +kernel
theorem dX0_timeOf_7 : decode cX0_timeOf 7 = .ok (.invokevirtual 74, 3) := by decide +kernel
theorem dX0_timeOf_10 : decode cX0_timeOf 10 = .ok (.ireturn, 1) := by decide +kernel
theorem dX0_time_0 : decode cX0_time 0 = .ok (.iload_n 2, 1) := by decide +kernel
theorem dX0_time_1 : decode cX0_time 1 = .ok (.ifCond .lt 9, 3) := by decide +kernel
theorem dX0_time_4 : decode cX0_time 4 = .ok (.iload_n 2, 1) := by decide +kernel
theorem dX0_time_5 : decode cX0_time 5 = .ok (.bipush 6, 2) := by decide +kernel
theorem dX0_time_7 : decode cX0_time 7 = .ok (.if_icmp .lt 5, 3) := by decide +kernel
theorem dX0_time_10 : decode cX0_time 10 = .ok (.iconst (-1), 1) := by decide +kernel
theorem dX0_time_11 : decode cX0_time 11 = .ok (.ireturn, 1) := by decide +kernel
theorem dX0_time_12 : decode cX0_time 12 = .ok (.aload_n 0, 1) := by decide +kernel
theorem dX0_time_13 : decode cX0_time 13 = .ok (.getfield 11, 3) := by decide +kernel
theorem dX0_time_16 : decode cX0_time 16 = .ok (.iload_n 2, 1) := by decide +kernel
theorem dX0_time_17 : decode cX0_time 17 = .ok (.aaload, 1) := by decide +kernel
theorem dX0_time_18 : decode cX0_time 18 = .ok (.aload_n 0, 1) := by decide +kernel
theorem dX0_time_19 : decode cX0_time 19 = .ok (.getfield 24, 3) := by decide +kernel
theorem dX0_time_22 : decode cX0_time 22 = .ok (.getfield 31, 3) := by decide +kernel
theorem dX0_time_25 : decode cX0_time 25 = .ok (.iload_n 1, 1) := by decide +kernel
theorem dX0_time_26 : decode cX0_time 26 = .ok (.invokevirtual 56, 3) := by decide +kernel
theorem dX0_time_29 : decode cX0_time 29 = .ok (.invokevirtual 77, 3) := by decide +kernel
theorem dX0_time_32 : decode cX0_time 32 = .ok (.ireturn, 1) := by decide +kernel
theorem dX0_weigh_0 : decode cX0_weigh 0 = .ok (.iconst 0, 1) := by decide +kernel
theorem dX0_weigh_1 : decode cX0_weigh 1 = .ok (.istore_n 1, 1) := by decide +kernel
theorem dX0_weigh_2 : decode cX0_weigh 2 = .ok (.iconst 0, 1) := by decide +kernel
theorem dX0_weigh_3 : decode cX0_weigh 3 = .ok (.istore_n 2, 1) := by decide +kernel
theorem dX0_weigh_4 : decode cX0_weigh 4 = .ok (.iconst 0, 1) := by decide +kernel
theorem dX0_weigh_5 : decode cX0_weigh 5 = .ok (.istore_n 3, 1) := by decide +kernel
theorem dX0_weigh_6 : decode cX0_weigh 6 = .ok (.iload_n 3, 1) := by decide +kernel
theorem dX0_weigh_7 : decode cX0_weigh 7 = .ok (.aload_n 0, 1) := by decide +kernel
theorem dX0_weigh_8 : decode cX0_weigh 8 = .ok (.getfield 52, 3) := by decide +kernel
theorem dX0_weigh_11 : decode cX0_weigh 11 = .ok (.if_icmp .ge 47, 3) := by decide +kernel
theorem dX0_weigh_14 : decode cX0_weigh 14 = .ok (.iload_n 3, 1) := by decide +kernel
theorem dX0_weigh_15 : decode cX0_weigh 15 = .ok (.bipush 6, 2) := by decide +kernel
theorem dX0_weigh_17 : decode cX0_weigh 17 = .ok (.if_icmp .ge 41, 3) := by decide +kernel
theorem dX0_weigh_20 : decode cX0_weigh 20 = .ok (.aload_n 0, 1) := by decide +kernel
theorem dX0_weigh_21 : decode cX0_weigh 21 = .ok (.iload_n 3, 1) := by decide +kernel
theorem dX0_weigh_22 : decode cX0_weigh 22 = .ok (.aload_n 0, 1) := by decide +kernel
theorem dX0_weigh_23 : decode cX0_weigh 23 = .ok (.getfield 17, 3) := by decide +kernel
theorem dX0_weigh_26 : decode cX0_weigh 26 = .ok (.iload_n 3, 1) := by decide +kernel
theorem dX0_weigh_27 : decode cX0_weigh 27 = .ok (.iaload, 1) := by decide +kernel
theorem dX0_weigh_28 : decode cX0_weigh 28 = .ok (.invokevirtual 74, 3) := by decide +kernel
theorem dX0_weigh_31 : decode cX0_weigh 31 = .ok (.istore 4, 2) := by decide +kernel
theorem dX0_weigh_33 : decode cX0_weigh 33 = .ok (.iload 4, 2) := by decide +kernel
theorem dX0_weigh_35 : decode cX0_weigh 35 = .ok (.iconst (-1), 1) := by decide +kernel
theorem dX0_weigh_36 : decode cX0_weigh 36 = .ok (.if_icmp .ne 4, 3) := by decide +kernel
theorem dX0_weigh_39 : decode cX0_weigh 39 = .ok (.return_, 1) := by decide +kernel
theorem dX0_weigh_40 : decode cX0_weigh 40 = .ok (.iload_n 1, 1) := by decide +kernel
theorem dX0_weigh_41 : decode cX0_weigh 41 = .ok (.iload 4, 2) := by decide +kernel
theorem dX0_weigh_43 : decode cX0_weigh 43 = .ok (.invokestatic 80, 3) := by decide +kernel
theorem dX0_weigh_46 : decode cX0_weigh 46 = .ok (.istore_n 1, 1) := by decide +kernel
theorem dX0_weigh_47 : decode cX0_weigh 47 = .ok (.iload_n 2, 1) := by decide +kernel
theorem dX0_weigh_48 : decode cX0_weigh 48 = .ok (.iload 4, 2) := by decide +kernel
theorem dX0_weigh_50 : decode cX0_weigh 50 = .ok (.iadd, 1) := by decide +kernel
theorem dX0_weigh_51 : decode cX0_weigh 51 = .ok (.istore_n 2, 1) := by decide +kernel
theorem dX0_weigh_52 : decode cX0_weigh 52 = .ok (.iinc 3 1, 3) := by decide +kernel
theorem dX0_weigh_55 : decode cX0_weigh 55 = .ok (.goto (-49), 3) := by decide +kernel
theorem dX0_weigh_58 : decode cX0_weigh 58 = .ok (.aload_n 0, 1) := by decide +kernel
theorem dX0_weigh_59 : decode cX0_weigh 59 = .ok (.dup, 1) := by decide +kernel
theorem dX0_weigh_60 : decode cX0_weigh 60 = .ok (.getfield 53, 3) := by decide +kernel
theorem dX0_weigh_63 : decode cX0_weigh 63 = .ok (.iconst 1, 1) := by decide +kernel
theorem dX0_weigh_64 : decode cX0_weigh 64 = .ok (.iadd, 1) := by decide +kernel
theorem dX0_weigh_65 : decode cX0_weigh 65 = .ok (.putfield 53, 3) := by decide +kernel
theorem dX0_weigh_68 : decode cX0_weigh 68 = .ok (.aload_n 0, 1) := by decide +kernel
theorem dX0_weigh_69 : decode cX0_weigh 69 = .ok (.getfield 53, 3) := by decide +kernel
theorem dX0_weigh_72 : decode cX0_weigh 72 = .ok (.iconst 1, 1) := by decide +kernel
theorem dX0_weigh_73 : decode cX0_weigh 73 = .ok (.if_icmp .eq 11, 3) := by decide +kernel
theorem dX0_weigh_76 : decode cX0_weigh 76 = .ok (.iload_n 1, 1) := by decide +kernel
theorem dX0_weigh_77 : decode cX0_weigh 77 = .ok (.aload_n 0, 1) := by decide +kernel
theorem dX0_weigh_78 : decode cX0_weigh 78 = .ok (.getfield 83, 3) := by decide +kernel
theorem dX0_weigh_81 : decode cX0_weigh 81 = .ok (.if_icmp .ge 17, 3) := by decide +kernel
theorem dX0_weigh_84 : decode cX0_weigh 84 = .ok (.aload_n 0, 1) := by decide +kernel
theorem dX0_weigh_85 : decode cX0_weigh 85 = .ok (.iconst 0, 1) := by decide +kernel
theorem dX0_weigh_86 : decode cX0_weigh 86 = .ok (.putfield 86, 3) := by decide +kernel
theorem dX0_weigh_89 : decode cX0_weigh 89 = .ok (.aload_n 0, 1) := by decide +kernel
theorem dX0_weigh_90 : decode cX0_weigh 90 = .ok (.iload_n 1, 1) := by decide +kernel
theorem dX0_weigh_91 : decode cX0_weigh 91 = .ok (.iload_n 2, 1) := by decide +kernel
theorem dX0_weigh_92 : decode cX0_weigh 92 = .ok (.invokevirtual 89, 3) := by decide +kernel
theorem dX0_weigh_95 : decode cX0_weigh 95 = .ok (.goto 25, 3) := by decide +kernel
theorem dX0_weigh_98 : decode cX0_weigh 98 = .ok (.iload_n 1, 1) := by decide +kernel
theorem dX0_weigh_99 : decode cX0_weigh 99 = .ok (.aload_n 0, 1) := by decide +kernel
theorem dX0_weigh_100 : decode cX0_weigh 100 = .ok (.getfield 83, 3) := by decide +kernel
theorem dX0_weigh_103 : decode cX0_weigh 103 = .ok (.if_icmp .ne 17, 3) := by decide +kernel
theorem dX0_weigh_106 : decode cX0_weigh 106 = .ok (.iload_n 2, 1) := by decide +kernel
theorem dX0_weigh_107 : decode cX0_weigh 107 = .ok (.aload_n 0, 1) := by decide +kernel
theorem dX0_weigh_108 : decode cX0_weigh 108 = .ok (.getfield 93, 3) := by decide +kernel
theorem dX0_weigh_111 : decode cX0_weigh 111 = .ok (.if_icmp .ge 9, 3) := by decide +kernel
theorem dX0_weigh_114 : decode cX0_weigh 114 = .ok (.aload_n 0, 1) := by decide +kernel
theorem dX0_weigh_115 : decode cX0_weigh 115 = .ok (.iload_n 1, 1) := by decide +kernel
theorem dX0_weigh_116 : decode cX0_weigh 116 = .ok (.iload_n 2, 1) := by decide +kernel
theorem dX0_weigh_117 : decode cX0_weigh 117 = .ok (.invokevirtual 89, 3) := by decide +kernel
theorem dX0_weigh_120 : decode cX0_weigh 120 = .ok (.iload_n 1, 1) := by decide +kernel
theorem dX0_weigh_121 : decode cX0_weigh 121 = .ok (.aload_n 0, 1) := by decide +kernel
theorem dX0_weigh_122 : decode cX0_weigh 122 = .ok (.getfield 83, 3) := by decide +kernel
theorem dX0_weigh_125 : decode cX0_weigh 125 = .ok (.if_icmp .ne 13, 3) := by decide +kernel
theorem dX0_weigh_128 : decode cX0_weigh 128 = .ok (.aload_n 0, 1) := by decide +kernel
theorem dX0_weigh_129 : decode cX0_weigh 129 = .ok (.dup, 1) := by decide +kernel
theorem dX0_weigh_130 : decode cX0_weigh 130 = .ok (.getfield 86, 3) := by decide +kernel
theorem dX0_weigh_133 : decode cX0_weigh 133 = .ok (.iconst 1, 1) := by decide +kernel
theorem dX0_weigh_134 : decode cX0_weigh 134 = .ok (.iadd, 1) := by decide +kernel
theorem dX0_weigh_135 : decode cX0_weigh 135 = .ok (.putfield 86, 3) := by decide +kernel
theorem dX0_weigh_138 : decode cX0_weigh 138 = .ok (.return_, 1) := by decide +kernel
theorem dX0_take_0 : decode cX0_take 0 = .ok (.aload_n 0, 1) := by decide +kernel
theorem dX0_take_1 : decode cX0_take 1 = .ok (.iload_n 1, 1) := by decide +kernel
theorem dX0_take_2 : decode cX0_take 2 = .ok (.putfield 83, 3) := by decide +kernel
theorem dX0_take_5 : decode cX0_take 5 = .ok (.aload_n 0, 1) := by decide +kernel
theorem dX0_take_6 : decode cX0_take 6 = .ok (.iload_n 2, 1) := by decide +kernel
theorem dX0_take_7 : decode cX0_take 7 = .ok (.putfield 93, 3) := by decide +kernel
theorem dX0_take_10 : decode cX0_take 10 = .ok (.aload_n 0, 1) := by decide +kernel
theorem dX0_take_11 : decode cX0_take 11 = .ok (.getfield 17, 3) := by decide +kernel
theorem dX0_take_14 : decode cX0_take 14 = .ok (.iconst 0, 1) := by decide +kernel
theorem dX0_take_15 : decode cX0_take 15 = .ok (.aload_n 0, 1) := by decide +kernel
theorem dX0_take_16 : decode cX0_take 16 = .ok (.getfield 21, 3) := by decide +kernel
theorem dX0_take_19 : decode cX0_take 19 = .ok (.iconst 0, 1) := by decide +kernel
theorem dX0_take_20 : decode cX0_take 20 = .ok (.bipush 6, 2) := by decide +kernel
theorem dX0_take_22 : decode cX0_take 22 = .ok (.invokestatic 96, 3) := by decide +kernel
theorem dX0_take_25 : decode cX0_take 25 = .ok (.return_, 1) := by decide +kernel
theorem dX0_nextTrial_0 : decode cX0_nextTrial 0 = .ok (.aload_n 0, 1) := by decide +kernel
theorem dX0_nextTrial_1 : decode cX0_nextTrial 1 = .ok (.getfield 52, 3) := by decide +kernel
theorem dX0_nextTrial_4 : decode cX0_nextTrial 4 = .ok (.bipush 6, 2) := by decide +kernel
theorem dX0_nextTrial_6 : decode cX0_nextTrial 6 = .ok (.invokestatic 46, 3) := by decide +kernel
theorem dX0_nextTrial_9 : decode cX0_nextTrial 9 = .ok (.iconst 2, 1) := by decide +kernel
theorem dX0_nextTrial_10 : decode cX0_nextTrial 10 = .ok (.isub, 1) := by decide +kernel
theorem dX0_nextTrial_11 : decode cX0_nextTrial 11 = .ok (.istore_n 1, 1) := by decide +kernel
theorem dX0_nextTrial_12 : decode cX0_nextTrial 12 = .ok (.iload_n 1, 1) := by decide +kernel
theorem dX0_nextTrial_13 : decode cX0_nextTrial 13 = .ok (.ifCond .lt 26, 3) := by decide +kernel
theorem dX0_nextTrial_16 : decode cX0_nextTrial 16 = .ok (.aload_n 0, 1) := by decide +kernel
theorem dX0_nextTrial_17 : decode cX0_nextTrial 17 = .ok (.getfield 17, 3) := by decide +kernel
theorem dX0_nextTrial_20 : decode cX0_nextTrial 20 = .ok (.iload_n 1, 1) := by decide +kernel
theorem dX0_nextTrial_21 : decode cX0_nextTrial 21 = .ok (.iaload, 1) := by decide +kernel
theorem dX0_nextTrial_22 : decode cX0_nextTrial 22 = .ok (.aload_n 0, 1) := by decide +kernel
theorem dX0_nextTrial_23 : decode cX0_nextTrial 23 = .ok (.getfield 17, 3) := by decide +kernel
theorem dX0_nextTrial_26 : decode cX0_nextTrial 26 = .ok (.iload_n 1, 1) := by decide +kernel
theorem dX0_nextTrial_27 : decode cX0_nextTrial 27 = .ok (.iconst 1, 1) := by decide +kernel
theorem dX0_nextTrial_28 : decode cX0_nextTrial 28 = .ok (.iadd, 1) := by decide +kernel
theorem dX0_nextTrial_29 : decode cX0_nextTrial 29 = .ok (.iaload, 1) := by decide +kernel
theorem dX0_nextTrial_30 : decode cX0_nextTrial 30 = .ok (.if_icmp .le 9, 3) := by decide +kernel
theorem dX0_nextTrial_33 : decode cX0_nextTrial 33 = .ok (.iinc 1 (-1), 3) := by decide +kernel
theorem dX0_nextTrial_36 : decode cX0_nextTrial 36 = .ok (.goto (-24), 3) := by decide +kernel
theorem dX0_nextTrial_39 : decode cX0_nextTrial 39 = .ok (.iload_n 1, 1) := by decide +kernel
theorem dX0_nextTrial_40 : decode cX0_nextTrial 40 = .ok (.ifCond .ge 5, 3) := by decide +kernel
theorem dX0_nextTrial_43 : decode cX0_nextTrial 43 = .ok (.iconst 0, 1) := by decide +kernel
theorem dX0_nextTrial_44 : decode cX0_nextTrial 44 = .ok (.ireturn, 1) := by decide +kernel
theorem dX0_nextTrial_45 : decode cX0_nextTrial 45 = .ok (.aload_n 0, 1) := by decide +kernel
theorem dX0_nextTrial_46 : decode cX0_nextTrial 46 = .ok (.getfield 52, 3) := by decide +kernel
theorem dX0_nextTrial_49 : decode cX0_nextTrial 49 = .ok (.bipush 6, 2) := by decide +kernel
theorem dX0_nextTrial_51 : decode cX0_nextTrial 51 = .ok (.invokestatic 46, 3) := by decide +kernel
theorem dX0_nextTrial_54 : decode cX0_nextTrial 54 = .ok (.iconst 1, 1) := by decide +kernel
theorem dX0_nextTrial_55 : decode cX0_nextTrial 55 = .ok (.isub, 1) := by decide +kernel
theorem dX0_nextTrial_56 : decode cX0_nextTrial 56 = .ok (.istore_n 2, 1) := by decide +kernel
theorem dX0_nextTrial_57 : decode cX0_nextTrial 57 = .ok (.iload_n 2, 1) := by decide +kernel
theorem dX0_nextTrial_58 : decode cX0_nextTrial 58 = .ok (.iload_n 1, 1) := by decide +kernel
theorem dX0_nextTrial_59 : decode cX0_nextTrial 59 = .ok (.if_icmp .le 24, 3) := by decide +kernel
theorem dX0_nextTrial_62 : decode cX0_nextTrial 62 = .ok (.aload_n 0, 1) := by decide +kernel
theorem dX0_nextTrial_63 : decode cX0_nextTrial 63 = .ok (.getfield 17, 3) := by decide +kernel
theorem dX0_nextTrial_66 : decode cX0_nextTrial 66 = .ok (.iload_n 2, 1) := by decide +kernel
theorem dX0_nextTrial_67 : decode cX0_nextTrial 67 = .ok (.iaload, 1) := by decide +kernel
theorem dX0_nextTrial_68 : decode cX0_nextTrial 68 = .ok (.aload_n 0, 1) := by decide +kernel
theorem dX0_nextTrial_69 : decode cX0_nextTrial 69 = .ok (.getfield 17, 3) := by decide +kernel
theorem dX0_nextTrial_72 : decode cX0_nextTrial 72 = .ok (.iload_n 1, 1) := by decide +kernel
theorem dX0_nextTrial_73 : decode cX0_nextTrial 73 = .ok (.iaload, 1) := by decide +kernel
theorem dX0_nextTrial_74 : decode cX0_nextTrial 74 = .ok (.if_icmp .ge 9, 3) := by decide +kernel
theorem dX0_nextTrial_77 : decode cX0_nextTrial 77 = .ok (.iinc 2 (-1), 3) := by decide +kernel
theorem dX0_nextTrial_80 : decode cX0_nextTrial 80 = .ok (.goto (-23), 3) := by decide +kernel
theorem dX0_nextTrial_83 : decode cX0_nextTrial 83 = .ok (.aload_n 0, 1) := by decide +kernel
theorem dX0_nextTrial_84 : decode cX0_nextTrial 84 = .ok (.iload_n 1, 1) := by decide +kernel
theorem dX0_nextTrial_85 : decode cX0_nextTrial 85 = .ok (.iload_n 2, 1) := by decide +kernel
theorem dX0_nextTrial_86 : decode cX0_nextTrial 86 = .ok (.invokevirtual 102, 3) := by decide +kernel
theorem dX0_nextTrial_89 : decode cX0_nextTrial 89 = .ok (.iload_n 1, 1) := by decide +kernel
theorem dX0_nextTrial_90 : decode cX0_nextTrial 90 = .ok (.iconst 1, 1) := by decide +kernel
theorem dX0_nextTrial_91 : decode cX0_nextTrial 91 = .ok (.iadd, 1) := by decide +kernel
theorem dX0_nextTrial_92 : decode cX0_nextTrial 92 = .ok (.istore_n 3, 1) := by decide +kernel
theorem dX0_nextTrial_93 : decode cX0_nextTrial 93 = .ok (.aload_n 0, 1) := by decide +kernel
theorem dX0_nextTrial_94 : decode cX0_nextTrial 94 = .ok (.getfield 52, 3) := by decide +kernel
theorem dX0_nextTrial_97 : decode cX0_nextTrial 97 = .ok (.bipush 6, 2) := by decide +kernel
theorem dX0_nextTrial_99 : decode cX0_nextTrial 99 = .ok (.invokestatic 46, 3) := by decide +kernel
theorem dX0_nextTrial_102 : decode cX0_nextTrial 102 = .ok (.iconst 1, 1) := by decide +kernel
theorem dX0_nextTrial_103 : decode cX0_nextTrial 103 = .ok (.isub, 1) := by decide +kernel
theorem dX0_nextTrial_104 : decode cX0_nextTrial 104 = .ok (.istore 4, 2) := by decide +kernel
theorem dX0_nextTrial_106 : decode cX0_nextTrial 106 = .ok (.iload_n 3, 1) := by decide +kernel
theorem dX0_nextTrial_107 : decode cX0_nextTrial 107 = .ok (.iload 4, 2) := by decide +kernel
theorem dX0_nextTrial_109 : decode cX0_nextTrial 109 = .ok (.if_icmp .ge 19, 3) := by decide +kernel
theorem dX0_nextTrial_112 : decode cX0_nextTrial 112 = .ok (.aload_n 0, 1) := by decide +kernel
theorem dX0_nextTrial_113 : decode cX0_nextTrial 113 = .ok (.iload_n 3, 1) := by decide +kernel
theorem dX0_nextTrial_114 : decode cX0_nextTrial 114 = .ok (.iload 4, 2) := by decide +kernel
theorem dX0_nextTrial_116 : decode cX0_nextTrial 116 = .ok (.invokevirtual 102, 3) := by decide +kernel
theorem dX0_nextTrial_119 : decode cX0_nextTrial 119 = .ok (.iinc 3 1, 3) := by decide +kernel
theorem dX0_nextTrial_122 : decode cX0_nextTrial 122 = .ok (.iinc 4 (-1), 3) := by decide +kernel
theorem dX0_nextTrial_125 : decode cX0_nextTrial 125 = .ok (.goto (-19), 3) := by decide +kernel
theorem dX0_nextTrial_128 : decode cX0_nextTrial 128 = .ok (.iconst 1, 1) := by decide +kernel
theorem dX0_nextTrial_129 : decode cX0_nextTrial 129 = .ok (.ireturn, 1) := by decide +kernel
theorem dX0_swap_0 : decode cX0_swap 0 = .ok (.iload_n 1, 1) := by decide +kernel
theorem dX0_swap_1 : decode cX0_swap 1 = .ok (.ifCond .lt 45, 3) := by decide +kernel
theorem dX0_swap_4 : decode cX0_swap 4 = .ok (.iload_n 1, 1) := by decide +kernel
theorem dX0_swap_5 : decode cX0_swap 5 = .ok (.bipush 6, 2) := by decide +kernel
theorem dX0_swap_7 : decode cX0_swap 7 = .ok (.if_icmp .ge 39, 3) := by decide +kernel
theorem dX0_swap_10 : decode cX0_swap 10 = .ok (.iload_n 2, 1) := by decide +kernel
theorem dX0_swap_11 : decode cX0_swap 11 = .ok (.ifCond .lt 35, 3) := by decide +kernel
theorem dX0_swap_14 : decode cX0_swap 14 = .ok (.iload_n 2, 1) := by decide +kernel
theorem dX0_swap_15 : decode cX0_swap 15 = .ok (.bipush 6, 2) := by decide +kernel
theorem dX0_swap_17 : decode cX0_swap 17 = .ok (.if_icmp .ge 29, 3) := by decide +kernel
theorem dX0_swap_20 : decode cX0_swap 20 = .ok (.aload_n 0, 1) := by decide +kernel
theorem dX0_swap_21 : decode cX0_swap 21 = .ok (.getfield 17, 3) := by decide +kernel
theorem dX0_swap_24 : decode cX0_swap 24 = .ok (.iload_n 1, 1) := by decide +kernel
theorem dX0_swap_25 : decode cX0_swap 25 = .ok (.iaload, 1) := by decide +kernel
theorem dX0_swap_26 : decode cX0_swap 26 = .ok (.istore_n 3, 1) := by decide +kernel
theorem dX0_swap_27 : decode cX0_swap 27 = .ok (.aload_n 0, 1) := by decide +kernel
theorem dX0_swap_28 : decode cX0_swap 28 = .ok (.getfield 17, 3) := by decide +kernel
theorem dX0_swap_31 : decode cX0_swap 31 = .ok (.iload_n 1, 1) := by decide +kernel
theorem dX0_swap_32 : decode cX0_swap 32 = .ok (.aload_n 0, 1) := by decide +kernel
theorem dX0_swap_33 : decode cX0_swap 33 = .ok (.getfield 17, 3) := by decide +kernel
theorem dX0_swap_36 : decode cX0_swap 36 = .ok (.iload_n 2, 1) := by decide +kernel
theorem dX0_swap_37 : decode cX0_swap 37 = .ok (.iaload, 1) := by decide +kernel
theorem dX0_swap_38 : decode cX0_swap 38 = .ok (.iastore, 1) := by decide +kernel
theorem dX0_swap_39 : decode cX0_swap 39 = .ok (.aload_n 0, 1) := by decide +kernel
theorem dX0_swap_40 : decode cX0_swap 40 = .ok (.getfield 17, 3) := by decide +kernel
theorem dX0_swap_43 : decode cX0_swap 43 = .ok (.iload_n 2, 1) := by decide +kernel
theorem dX0_swap_44 : decode cX0_swap 44 = .ok (.iload_n 3, 1) := by decide +kernel
theorem dX0_swap_45 : decode cX0_swap 45 = .ok (.iastore, 1) := by decide +kernel
theorem dX0_swap_46 : decode cX0_swap 46 = .ok (.return_, 1) := by decide +kernel
theorem dX1_init_0 : decode cX1_init 0 = .ok (.aload_n 0, 1) := by decide +kernel
theorem dX1_init_1 : decode cX1_init 1 = .ok (.invokespecial 3, 3) := by decide +kernel
theorem dX1_init_4 : decode cX1_init 4 = .ok (.aload_n 0, 1) := by decide +kernel
theorem dX1_init_5 : decode cX1_init 5 = .ok (.bipush 61, 2) := by decide +kernel
theorem dX1_init_7 : decode cX1_init 7 = .ok (.newarray .int, 2) := by decide +kernel
theorem dX1_init_9 : decode cX1_init 9 = .ok (.putfield 9, 3) := by decide +kernel
theorem dX1_init_12 : decode cX1_init 12 = .ok (.aload_n 0, 1) := by decide +kernel
theorem dX1_init_13 : decode cX1_init 13 = .ok (.bipush 61, 2) := by decide +kernel
theorem dX1_init_15 : decode cX1_init 15 = .ok (.newarray .int, 2) := by decide +kernel
theorem dX1_init_17 : decode cX1_init 17 = .ok (.putfield 15, 3) := by decide +kernel
theorem dX1_init_20 : decode cX1_init 20 = .ok (.return_, 1) := by decide +kernel
theorem dX1_begin_0 : decode cX1_begin 0 = .ok (.aload_n 0, 1) := by decide +kernel
theorem dX1_begin_1 : decode cX1_begin 1 = .ok (.iconst 0, 1) := by decide +kernel
theorem dX1_begin_2 : decode cX1_begin 2 = .ok (.putfield 18, 3) := by decide +kernel
theorem dX1_begin_5 : decode cX1_begin 5 = .ok (.aload_n 0, 1) := by decide +kernel
theorem dX1_begin_6 : decode cX1_begin 6 = .ok (.getfield 9, 3) := by decide +kernel
theorem dX1_begin_9 : decode cX1_begin 9 = .ok (.iload_n 1, 1) := by decide +kernel
theorem dX1_begin_10 : decode cX1_begin 10 = .ok (.invokestatic 22, 3) := by decide +kernel
theorem dX1_begin_13 : decode cX1_begin 13 = .ok (.aload_n 0, 1) := by decide +kernel
theorem dX1_begin_14 : decode cX1_begin 14 = .ok (.getfield 15, 3) := by decide +kernel
theorem dX1_begin_17 : decode cX1_begin 17 = .ok (.iconst 0, 1) := by decide +kernel
theorem dX1_begin_18 : decode cX1_begin 18 = .ok (.invokestatic 22, 3) := by decide +kernel
theorem dX1_begin_21 : decode cX1_begin 21 = .ok (.return_, 1) := by decide +kernel
theorem dX1_add_0 : decode cX1_add 0 = .ok (.iconst 0, 1) := by decide +kernel
theorem dX1_add_1 : decode cX1_add 1 = .ok (.istore 4, 2) := by decide +kernel
theorem dX1_add_3 : decode cX1_add 3 = .ok (.iload 4, 2) := by decide +kernel
theorem dX1_add_5 : decode cX1_add 5 = .ok (.iload_n 2, 1) := by decide +kernel
theorem dX1_add_6 : decode cX1_add 6 = .ok (.if_icmp .ge 45, 3) := by decide +kernel
theorem dX1_add_9 : decode cX1_add 9 = .ok (.aload_n 0, 1) := by decide +kernel
theorem dX1_add_10 : decode cX1_add 10 = .ok (.getfield 18, 3) := by decide +kernel
theorem dX1_add_13 : decode cX1_add 13 = .ok (.ifCond .lt 38, 3) := by decide +kernel
theorem dX1_add_16 : decode cX1_add 16 = .ok (.aload_n 0, 1) := by decide +kernel
theorem dX1_add_17 : decode cX1_add 17 = .ok (.getfield 18, 3) := by decide +kernel
theorem dX1_add_20 : decode cX1_add 20 = .ok (.bipush 60, 2) := by decide +kernel
theorem dX1_add_22 : decode cX1_add 22 = .ok (.if_icmp .ge 29, 3) := by decide +kernel
theorem dX1_add_25 : decode cX1_add 25 = .ok (.aload_n 0, 1) := by decide +kernel
theorem dX1_add_26 : decode cX1_add 26 = .ok (.getfield 15, 3) := by decide +kernel
theorem dX1_add_29 : decode cX1_add 29 = .ok (.aload_n 0, 1) := by decide +kernel
theorem dX1_add_30 : decode cX1_add 30 = .ok (.getfield 18, 3) := by decide +kernel
theorem dX1_add_33 : decode cX1_add 33 = .ok (.iload_n 1, 1) := by decide +kernel
theorem dX1_add_34 : decode cX1_add 34 = .ok (.iastore, 1) := by decide +kernel
theorem dX1_add_35 : decode cX1_add 35 = .ok (.aload_n 0, 1) := by decide +kernel
theorem dX1_add_36 : decode cX1_add 36 = .ok (.dup, 1) := by decide +kernel
theorem dX1_add_37 : decode cX1_add 37 = .ok (.getfield 18, 3) := by decide +kernel
theorem dX1_add_40 : decode cX1_add 40 = .ok (.iconst 1, 1) := by decide +kernel
theorem dX1_add_41 : decode cX1_add 41 = .ok (.iadd, 1) := by decide +kernel
theorem dX1_add_42 : decode cX1_add 42 = .ok (.putfield 18, 3) := by decide +kernel
theorem dX1_add_45 : decode cX1_add 45 = .ok (.iinc 4 1, 3) := by decide +kernel
theorem dX1_add_48 : decode cX1_add 48 = .ok (.goto (-45), 3) := by decide +kernel
theorem dX1_add_51 : decode cX1_add 51 = .ok (.aload_n 0, 1) := by decide +kernel
theorem dX1_add_52 : decode cX1_add 52 = .ok (.getfield 18, 3) := by decide +kernel
theorem dX1_add_55 : decode cX1_add 55 = .ok (.iconst 0, 1) := by decide +kernel
theorem dX1_add_56 : decode cX1_add 56 = .ok (.invokestatic 28, 3) := by decide +kernel
theorem dX1_add_59 : decode cX1_add 59 = .ok (.istore 4, 2) := by decide +kernel
theorem dX1_add_61 : decode cX1_add 61 = .ok (.iload 4, 2) := by decide +kernel
theorem dX1_add_63 : decode cX1_add 63 = .ok (.bipush 61, 2) := by decide +kernel
theorem dX1_add_65 : decode cX1_add 65 = .ok (.if_icmp .ge 17, 3) := by decide +kernel
theorem dX1_add_68 : decode cX1_add 68 = .ok (.aload_n 0, 1) := by decide +kernel
theorem dX1_add_69 : decode cX1_add 69 = .ok (.getfield 9, 3) := by decide +kernel
theorem dX1_add_72 : decode cX1_add 72 = .ok (.iload 4, 2) := by decide +kernel
theorem dX1_add_74 : decode cX1_add 74 = .ok (.iload_n 3, 1) := by decide +kernel
theorem dX1_add_75 : decode cX1_add 75 = .ok (.iastore, 1) := by decide +kernel
theorem dX1_add_76 : decode cX1_add 76 = .ok (.iinc 4 1, 3) := by decide +kernel
theorem dX1_add_79 : decode cX1_add 79 = .ok (.goto (-18), 3) := by decide +kernel
theorem dX1_add_82 : decode cX1_add 82 = .ok (.return_, 1) := by decide +kernel
theorem dX1_cellAt_0 : decode cX1_cellAt 0 = .ok (.aload_n 0, 1) := by decide +kernel
theorem dX1_cellAt_1 : decode cX1_cellAt 1 = .ok (.getfield 9, 3) := by decide +kernel
theorem dX1_cellAt_4 : decode cX1_cellAt 4 = .ok (.iconst 0, 1) := by decide +kernel
theorem dX1_cellAt_5 : decode cX1_cellAt 5 = .ok (.iload_n 1, 1) := by decide +kernel
theorem dX1_cellAt_6 : decode cX1_cellAt 6 = .ok (.bipush 60, 2) := by decide +kernel
theorem dX1_cellAt_8 : decode cX1_cellAt 8 = .ok (.invokestatic 34, 3) := by decide +kernel
theorem dX1_cellAt_11 : decode cX1_cellAt 11 = .ok (.invokestatic 28, 3) := by decide +kernel
theorem dX1_cellAt_14 : decode cX1_cellAt 14 = .ok (.iaload, 1) := by decide +kernel
theorem dX1_cellAt_15 : decode cX1_cellAt 15 = .ok (.ireturn, 1) := by decide +kernel
theorem dX1_actionAt_0 : decode cX1_actionAt 0 = .ok (.iload_n 1, 1) := by decide +kernel
theorem dX1_actionAt_1 : decode cX1_actionAt 1 = .ok (.ifCond .lt 26, 3) := by decide +kernel
theorem dX1_actionAt_4 : decode cX1_actionAt 4 = .ok (.iload_n 1, 1) := by decide +kernel
theorem dX1_actionAt_5 : decode cX1_actionAt 5 = .ok (.aload_n 0, 1) := by decide +kernel
theorem dX1_actionAt_6 : decode cX1_actionAt 6 = .ok (.getfield 18, 3) := by decide +kernel
theorem dX1_actionAt_9 : decode cX1_actionAt 9 = .ok (.if_icmp .ge 18, 3) := by decide +kernel
theorem dX1_actionAt_12 : decode cX1_actionAt 12 = .ok (.iload_n 1, 1) := by decide +kernel
theorem dX1_actionAt_13 : decode cX1_actionAt 13 = .ok (.bipush 60, 2) := by decide +kernel
theorem dX1_actionAt_15 : decode cX1_actionAt 15 = .ok (.if_icmp .ge 12, 3) := by decide +kernel
theorem dX1_actionAt_18 : decode cX1_actionAt 18 = .ok (.aload_n 0, 1) := by decide +kernel
theorem dX1_actionAt_19 : decode cX1_actionAt 19 = .ok (.getfield 15, 3) := by decide +kernel
theorem dX1_actionAt_22 : decode cX1_actionAt 22 = .ok (.iload_n 1, 1) := by decide +kernel
theorem dX1_actionAt_23 : decode cX1_actionAt 23 = .ok (.iaload, 1) := by decide +kernel
theorem dX1_actionAt_24 : decode cX1_actionAt 24 = .ok (.goto 4, 3) := by decide +kernel
theorem dX1_actionAt_27 : decode cX1_actionAt 27 = .ok (.iconst 0, 1) := by decide +kernel
theorem dX1_actionAt_28 : decode cX1_actionAt 28 = .ok (.ireturn, 1) := by decide +kernel
theorem dX1_meets_0 : decode cX1_meets 0 = .ok (.iconst 0, 1) := by decide +kernel
theorem dX1_meets_1 : decode cX1_meets 1 = .ok (.istore_n 2, 1) := by decide +kernel
theorem dX1_meets_2 : decode cX1_meets 2 = .ok (.iload_n 2, 1) := by decide +kernel
theorem dX1_meets_3 : decode cX1_meets 3 = .ok (.bipush 60, 2) := by decide +kernel
theorem dX1_meets_5 : decode cX1_meets 5 = .ok (.if_icmp .gt 66, 3) := by decide +kernel
theorem dX1_meets_8 : decode cX1_meets 8 = .ok (.aload_n 0, 1) := by decide +kernel
theorem dX1_meets_9 : decode cX1_meets 9 = .ok (.iload_n 2, 1) := by decide +kernel
theorem dX1_meets_10 : decode cX1_meets 10 = .ok (.invokevirtual 37, 3) := by decide +kernel
theorem dX1_meets_13 : decode cX1_meets 13 = .ok (.aload_n 1, 1) := by decide +kernel
theorem dX1_meets_14 : decode cX1_meets 14 = .ok (.iload_n 2, 1) := by decide +kernel
theorem dX1_meets_15 : decode cX1_meets 15 = .ok (.invokevirtual 37, 3) := by decide +kernel
theorem dX1_meets_18 : decode cX1_meets 18 = .ok (.if_icmp .ne 5, 3) := by decide +kernel
theorem dX1_meets_21 : decode cX1_meets 21 = .ok (.iconst 1, 1) := by decide +kernel
theorem dX1_meets_22 : decode cX1_meets 22 = .ok (.ireturn, 1) := by decide +kernel
theorem dX1_meets_23 : decode cX1_meets 23 = .ok (.aload_n 0, 1) := by decide +kernel
theorem dX1_meets_24 : decode cX1_meets 24 = .ok (.iload_n 2, 1) := by decide +kernel
theorem dX1_meets_25 : decode cX1_meets 25 = .ok (.iconst 1, 1) := by decide +kernel
theorem dX1_meets_26 : decode cX1_meets 26 = .ok (.iadd, 1) := by decide +kernel
theorem dX1_meets_27 : decode cX1_meets 27 = .ok (.invokevirtual 37, 3) := by decide +kernel
theorem dX1_meets_30 : decode cX1_meets 30 = .ok (.aload_n 1, 1) := by decide +kernel
theorem dX1_meets_31 : decode cX1_meets 31 = .ok (.iload_n 2, 1) := by decide +kernel
theorem dX1_meets_32 : decode cX1_meets 32 = .ok (.invokevirtual 37, 3) := by decide +kernel
theorem dX1_meets_35 : decode cX1_meets 35 = .ok (.if_icmp .ne 7, 3) := by decide +kernel
theorem dX1_meets_38 : decode cX1_meets 38 = .ok (.iconst 1, 1) := by decide +kernel
theorem dX1_meets_39 : decode cX1_meets 39 = .ok (.goto 4, 3) := by decide +kernel
theorem dX1_meets_42 : decode cX1_meets 42 = .ok (.iconst 0, 1) := by decide +kernel
theorem dX1_meets_43 : decode cX1_meets 43 = .ok (.istore_n 3, 1) := by decide +kernel
theorem dX1_meets_44 : decode cX1_meets 44 = .ok (.iload_n 3, 1) := by decide +kernel
theorem dX1_meets_45 : decode cX1_meets 45 = .ok (.ifCond .eq 20, 3) := by decide +kernel
theorem dX1_meets_48 : decode cX1_meets 48 = .ok (.aload_n 0, 1) := by decide +kernel
theorem dX1_meets_49 : decode cX1_meets 49 = .ok (.iload_n 2, 1) := by decide +kernel
theorem dX1_meets_50 : decode cX1_meets 50 = .ok (.invokevirtual 37, 3) := by decide +kernel
theorem dX1_meets_53 : decode cX1_meets 53 = .ok (.aload_n 1, 1) := by decide +kernel
theorem dX1_meets_54 : decode cX1_meets 54 = .ok (.iload_n 2, 1) := by decide +kernel
theorem dX1_meets_55 : decode cX1_meets 55 = .ok (.iconst 1, 1) := by decide +kernel
theorem dX1_meets_56 : decode cX1_meets 56 = .ok (.iadd, 1) := by decide +kernel
theorem dX1_meets_57 : decode cX1_meets 57 = .ok (.invokevirtual 37, 3) := by decide +kernel
theorem dX1_meets_60 : decode cX1_meets 60 = .ok (.if_icmp .ne 5, 3) := by decide +kernel
theorem dX1_meets_63 : decode cX1_meets 63 = .ok (.iconst 1, 1) := by decide +kernel
theorem dX1_meets_64 : decode cX1_meets 64 = .ok (.ireturn, 1) := by decide +kernel
theorem dX1_meets_65 : decode cX1_meets 65 = .ok (.iinc 2 1, 3) := by decide +kernel
theorem dX1_meets_68 : decode cX1_meets 68 = .ok (.goto (-66), 3) := by decide +kernel
theorem dX1_meets_71 : decode cX1_meets 71 = .ok (.iconst 0, 1) := by decide +kernel
theorem dX1_meets_72 : decode cX1_meets 72 = .ok (.ireturn, 1) := by decide +kernel
theorem dX2_init_0 : decode cX2_init 0 = .ok (.aload_n 0, 1) := by decide +kernel
theorem dX2_init_1 : decode cX2_init 1 = .ok (.invokespecial 3, 3) := by decide +kernel
theorem dX2_init_4 : decode cX2_init 4 = .ok (.aload_n 0, 1) := by decide +kernel
theorem dX2_init_5 : decode cX2_init 5 = .ok (.bipush 60, 2) := by decide +kernel
theorem dX2_init_7 : decode cX2_init 7 = .ok (.newarray .int, 2) := by decide +kernel
theorem dX2_init_9 : decode cX2_init 9 = .ok (.putfield 9, 3) := by decide +kernel
theorem dX2_init_12 : decode cX2_init 12 = .ok (.aload_n 0, 1) := by decide +kernel
theorem dX2_init_13 : decode cX2_init 13 = .ok (.new 15, 3) := by decide +kernel
theorem dX2_init_16 : decode cX2_init 16 = .ok (.dup, 1) := by decide +kernel
theorem dX2_init_17 : decode cX2_init 17 = .ok (.invokespecial 17, 3) := by decide +kernel
theorem dX2_init_20 : decode cX2_init 20 = .ok (.putfield 18, 3) := by decide +kernel
theorem dX2_init_23 : decode cX2_init 23 = .ok (.return_, 1) := by decide +kernel
theorem dX2_lengthen_0 : decode cX2_lengthen 0 = .ok (.aload_n 0, 1) := by decide +kernel
theorem dX2_lengthen_1 : decode cX2_lengthen 1 = .ok (.getfield 22, 3) := by decide +kernel
theorem dX2_lengthen_4 : decode cX2_lengthen 4 = .ok (.iload_n 2, 1) := by decide +kernel
theorem dX2_lengthen_5 : decode cX2_lengthen 5 = .ok (.iadd, 1) := by decide +kernel
theorem dX2_lengthen_6 : decode cX2_lengthen 6 = .ok (.bipush 60, 2) := by decide +kernel
theorem dX2_lengthen_8 : decode cX2_lengthen 8 = .ok (.if_icmp .le 5, 3) := by decide +kernel
theorem dX2_lengthen_11 : decode cX2_lengthen 11 = .ok (.iconst 0, 1) := by decide +kernel
theorem dX2_lengthen_12 : decode cX2_lengthen 12 = .ok (.ireturn, 1) := by decide +kernel
theorem dX2_lengthen_13 : decode cX2_lengthen 13 = .ok (.iconst 0, 1) := by decide +kernel
theorem dX2_lengthen_14 : decode cX2_lengthen 14 = .ok (.istore_n 3, 1) := by decide +kernel
theorem dX2_lengthen_15 : decode cX2_lengthen 15 = .ok (.iload_n 3, 1) := by decide +kernel
theorem dX2_lengthen_16 : decode cX2_lengthen 16 = .ok (.iload_n 2, 1) := by decide +kernel
theorem dX2_lengthen_17 : decode cX2_lengthen 17 = .ok (.if_icmp .ge 45, 3) := by decide +kernel
theorem dX2_lengthen_20 : decode cX2_lengthen 20 = .ok (.aload_n 0, 1) := by decide +kernel
theorem dX2_lengthen_21 : decode cX2_lengthen 21 = .ok (.getfield 22, 3) := by decide +kernel
theorem dX2_lengthen_24 : decode cX2_lengthen 24 = .ok (.ifCond .lt 38, 3) := by decide +kernel
theorem dX2_lengthen_27 : decode cX2_lengthen 27 = .ok (.aload_n 0, 1) := by decide +kernel
theorem dX2_lengthen_28 : decode cX2_lengthen 28 = .ok (.getfield 22, 3) := by decide +kernel
theorem dX2_lengthen_31 : decode cX2_lengthen 31 = .ok (.bipush 60, 2) := by decide +kernel
theorem dX2_lengthen_33 : decode cX2_lengthen 33 = .ok (.if_icmp .ge 29, 3) := by decide +kernel
theorem dX2_lengthen_36 : decode cX2_lengthen 36 = .ok (.aload_n 0, 1) := by decide +kernel
theorem dX2_lengthen_37 : decode cX2_lengthen 37 = .ok (.getfield 9, 3) := by decide +kernel
theorem dX2_lengthen_40 : decode cX2_lengthen 40 = .ok (.aload_n 0, 1) := by decide +kernel
theorem dX2_lengthen_41 : decode cX2_lengthen 41 = .ok (.getfield 22, 3) := by decide +kernel
theorem dX2_lengthen_44 : decode cX2_lengthen 44 = .ok (.iload_n 1, 1) := by decide +kernel
theorem dX2_lengthen_45 : decode cX2_lengthen 45 = .ok (.iastore, 1) := by decide +kernel
theorem dX2_lengthen_46 : decode cX2_lengthen 46 = .ok (.aload_n 0, 1) := by decide +kernel
theorem dX2_lengthen_47 : decode cX2_lengthen 47 = .ok (.dup, 1) := by decide +kernel
theorem dX2_lengthen_48 : decode cX2_lengthen 48 = .ok (.getfield 22, 3) := by decide +kernel
theorem dX2_lengthen_51 : decode cX2_lengthen 51 = .ok (.iconst 1, 1) := by decide +kernel
theorem dX2_lengthen_52 : decode cX2_lengthen 52 = .ok (.iadd, 1) := by decide +kernel
theorem dX2_lengthen_53 : decode cX2_lengthen 53 = .ok (.putfield 22, 3) := by decide +kernel
theorem dX2_lengthen_56 : decode cX2_lengthen 56 = .ok (.iinc 3 1, 3) := by decide +kernel
theorem dX2_lengthen_59 : decode cX2_lengthen 59 = .ok (.goto (-44), 3) := by decide +kernel
theorem dX2_lengthen_62 : decode cX2_lengthen 62 = .ok (.iconst 1, 1) := by decide +kernel
theorem dX2_lengthen_63 : decode cX2_lengthen 63 = .ok (.ireturn, 1) := by decide +kernel
theorem dX2_read_0 : decode cX2_read 0 = .ok (.aload_n 0, 1) := by decide +kernel
theorem dX2_read_1 : decode cX2_read 1 = .ok (.iconst 0, 1) := by decide +kernel
theorem dX2_read_2 : decode cX2_read 2 = .ok (.putfield 26, 3) := by decide +kernel
theorem dX2_read_5 : decode cX2_read 5 = .ok (.aload_n 0, 1) := by decide +kernel
theorem dX2_read_6 : decode cX2_read 6 = .ok (.iconst 0, 1) := by decide +kernel
theorem dX2_read_7 : decode cX2_read 7 = .ok (.putfield 29, 3) := by decide +kernel
theorem dX2_read_10 : decode cX2_read 10 = .ok (.aload_n 0, 1) := by decide +kernel
theorem dX2_read_11 : decode cX2_read 11 = .ok (.getfield 18, 3) := by decide +kernel
theorem dX2_read_14 : decode cX2_read 14 = .ok (.invokevirtual 33, 3) := by decide +kernel
theorem dX2_read_17 : decode cX2_read 17 = .ok (.aload_n 0, 1) := by decide +kernel
theorem dX2_read_18 : decode cX2_read 18 = .ok (.invokevirtual 36, 3) := by decide +kernel
theorem dX2_read_21 : decode cX2_read 21 = .ok (.istore_n 1, 1) := by decide +kernel
theorem dX2_read_22 : decode cX2_read 22 = .ok (.aload_n 0, 1) := by decide +kernel
theorem dX2_read_23 : decode cX2_read 23 = .ok (.iconst 0, 1) := by decide +kernel
theorem dX2_read_24 : decode cX2_read 24 = .ok (.putfield 22, 3) := by decide +kernel
theorem dX2_read_27 : decode cX2_read 27 = .ok (.iload_n 1, 1) := by decide +kernel
theorem dX2_read_28 : decode cX2_read 28 = .ok (.ireturn, 1) := by decide +kernel
theorem dX2_readPositions_0 : decode cX2_readPositions 0 = .ok (.iconst 1, 1) := by decide +kernel
theorem dX2_readPositions_1 : decode cX2_readPositions 1 = .ok (.istore_n 1, 1) := by decide +kernel
theorem dX2_readPositions_2 : decode cX2_readPositions 2 = .ok (.iload_n 1, 1) := by decide +kernel
theorem dX2_readPositions_3 : decode cX2_readPositions 3 = .ok (.bipush 60, 2) := by decide +kernel
theorem dX2_readPositions_5 : decode cX2_readPositions 5 = .ok (.if_icmp .gt 64, 3) := by decide +kernel
theorem dX2_readPositions_8 : decode cX2_readPositions 8 = .ok (.aload_n 0, 1) := by decide +kernel
theorem dX2_readPositions_9 : decode cX2_readPositions 9 = .ok (.invokevirtual 40, 3) := by decide +kernel
theorem dX2_readPositions_12 : decode cX2_readPositions 12 = .ok (.ifCond .ne 11, 3) := by decide +kernel
theorem dX2_readPositions_15 : decode cX2_readPositions 15 = .ok (.bipush (-100), 2) := by decide +kernel
theorem dX2_readPositions_17 : decode cX2_readPositions 17 = .ok (.aload_n 0, 1) := by decide +kernel
theorem dX2_readPositions_18 : decode cX2_readPositions 18 = .ok (.getfield 26, 3) := by decide +kernel
theorem dX2_readPositions_21 : decode cX2_readPositions 21 = .ok (.isub, 1) := by decide +kernel
theorem dX2_readPositions_22 : decode cX2_readPositions 22 = .ok (.ireturn, 1) := by decide +kernel
theorem dX2_readPositions_23 : decode cX2_readPositions 23 = .ok (.aload_n 0, 1) := by decide +kernel
theorem dX2_readPositions_24 : decode cX2_readPositions 24 = .ok (.getfield 26, 3) := by decide +kernel
theorem dX2_readPositions_27 : decode cX2_readPositions 27 = .ok (.aload_n 0, 1) := by decide +kernel
theorem dX2_readPositions_28 : decode cX2_readPositions 28 = .ok (.getfield 22, 3) := by decide +kernel
theorem dX2_readPositions_31 : decode cX2_readPositions 31 = .ok (.if_icmp .lt 5, 3) := by decide +kernel
theorem dX2_readPositions_34 : decode cX2_readPositions 34 = .ok (.iload_n 1, 1) := by decide +kernel
theorem dX2_readPositions_35 : decode cX2_readPositions 35 = .ok (.ireturn, 1) := by decide +kernel
theorem dX2_readPositions_36 : decode cX2_readPositions 36 = .ok (.aload_n 0, 1) := by decide +kernel
theorem dX2_readPositions_37 : decode cX2_readPositions 37 = .ok (.invokevirtual 44, 3) := by decide +kernel
theorem dX2_readPositions_40 : decode cX2_readPositions 40 = .ok (.bipush 32, 2) := by decide +kernel
theorem dX2_readPositions_42 : decode cX2_readPositions 42 = .ok (.if_icmp .eq 11, 3) := by decide +kernel
theorem dX2_readPositions_45 : decode cX2_readPositions 45 = .ok (.bipush (-100), 2) := by decide +kernel
theorem dX2_readPositions_47 : decode cX2_readPositions 47 = .ok (.aload_n 0, 1) := by decide +kernel
theorem dX2_readPositions_48 : decode cX2_readPositions 48 = .ok (.getfield 26, 3) := by decide +kernel
theorem dX2_readPositions_51 : decode cX2_readPositions 51 = .ok (.isub, 1) := by decide +kernel
theorem dX2_readPositions_52 : decode cX2_readPositions 52 = .ok (.ireturn, 1) := by decide +kernel
theorem dX2_readPositions_53 : decode cX2_readPositions 53 = .ok (.aload_n 0, 1) := by decide +kernel
theorem dX2_readPositions_54 : decode cX2_readPositions 54 = .ok (.dup, 1) := by decide +kernel
theorem dX2_readPositions_55 : decode cX2_readPositions 55 = .ok (.getfield 26, 3) := by decide +kernel
theorem dX2_readPositions_58 : decode cX2_readPositions 58 = .ok (.iconst 1, 1) := by decide +kernel
theorem dX2_readPositions_59 : decode cX2_readPositions 59 = .ok (.iadd, 1) := by decide +kernel
theorem dX2_readPositions_60 : decode cX2_readPositions 60 = .ok (.putfield 26, 3) := by decide +kernel
theorem dX2_readPositions_63 : decode cX2_readPositions 63 = .ok (.iinc 1 1, 3) := by decide +kernel
theorem dX2_readPositions_66 : decode cX2_readPositions 66 = .ok (.goto (-64), 3) := by decide +kernel
theorem dX2_readPositions_69 : decode cX2_readPositions 69 = .ok (.bipush (-100), 2) := by decide +kernel
theorem dX2_readPositions_71 : decode cX2_readPositions 71 = .ok (.aload_n 0, 1) := by decide +kernel
theorem dX2_readPositions_72 : decode cX2_readPositions 72 = .ok (.getfield 26, 3) := by decide +kernel
theorem dX2_readPositions_75 : decode cX2_readPositions 75 = .ok (.isub, 1) := by decide +kernel
theorem dX2_readPositions_76 : decode cX2_readPositions 76 = .ok (.ireturn, 1) := by decide +kernel
theorem dX2_readPosition_0 : decode cX2_readPosition 0 = .ok (.aload_n 0, 1) := by decide +kernel
theorem dX2_readPosition_1 : decode cX2_readPosition 1 = .ok (.invokevirtual 44, 3) := by decide +kernel
theorem dX2_readPosition_4 : decode cX2_readPosition 4 = .ok (.bipush 97, 2) := by decide +kernel
theorem dX2_readPosition_6 : decode cX2_readPosition 6 = .ok (.isub, 1) := by decide +kernel
theorem dX2_readPosition_7 : decode cX2_readPosition 7 = .ok (.istore_n 1, 1) := by decide +kernel
theorem dX2_readPosition_8 : decode cX2_readPosition 8 = .ok (.iload_n 1, 1) := by decide +kernel
theorem dX2_readPosition_9 : decode cX2_readPosition 9 = .ok (.ifCond .lt 9, 3) := by decide +kernel
theorem dX2_readPosition_12 : decode cX2_readPosition 12 = .ok (.iload_n 1, 1) := by decide +kernel
theorem dX2_readPosition_13 : decode cX2_readPosition 13 = .ok (.bipush 6, 2) := by decide +kernel
theorem dX2_readPosition_15 : decode cX2_readPosition 15 = .ok (.if_icmp .lt 5, 3) := by decide +kernel
theorem dX2_readPosition_18 : decode cX2_readPosition 18 = .ok (.iconst 0, 1) := by decide +kernel
theorem dX2_readPosition_19 : decode cX2_readPosition 19 = .ok (.ireturn, 1) := by decide +kernel
theorem dX2_readPosition_20 : decode cX2_readPosition 20 = .ok (.aload_n 0, 1) := by decide +kernel
theorem dX2_readPosition_21 : decode cX2_readPosition 21 = .ok (.dup, 1) := by decide +kernel
theorem dX2_readPosition_22 : decode cX2_readPosition 22 = .ok (.getfield 26, 3) := by decide +kernel
theorem dX2_readPosition_25 : decode cX2_readPosition 25 = .ok (.iconst 1, 1) := by decide +kernel
theorem dX2_readPosition_26 : decode cX2_readPosition 26 = .ok (.iadd, 1) := by decide +kernel
theorem dX2_readPosition_27 : decode cX2_readPosition 27 = .ok (.putfield 26, 3) := by decide +kernel
theorem dX2_readPosition_30 : decode cX2_readPosition 30 = .ok (.aload_n 0, 1) := by decide +kernel
theorem dX2_readPosition_31 : decode cX2_readPosition 31 = .ok (.invokevirtual 44, 3) := by decide +kernel
theorem dX2_readPosition_34 : decode cX2_readPosition 34 = .ok (.bipush 49, 2) := by decide +kernel
theorem dX2_readPosition_36 : decode cX2_readPosition 36 = .ok (.isub, 1) := by decide +kernel
theorem dX2_readPosition_37 : decode cX2_readPosition 37 = .ok (.istore_n 2, 1) := by decide +kernel
theorem dX2_readPosition_38 : decode cX2_readPosition 38 = .ok (.iload_n 2, 1) := by decide +kernel
theorem dX2_readPosition_39 : decode cX2_readPosition 39 = .ok (.ifCond .lt 9, 3) := by decide +kernel
theorem dX2_readPosition_42 : decode cX2_readPosition 42 = .ok (.iload_n 2, 1) := by decide +kernel
theorem dX2_readPosition_43 : decode cX2_readPosition 43 = .ok (.bipush 6, 2) := by decide +kernel
theorem dX2_readPosition_45 : decode cX2_readPosition 45 = .ok (.if_icmp .lt 5, 3) := by decide +kernel
theorem dX2_readPosition_48 : decode cX2_readPosition 48 = .ok (.iconst 0, 1) := by decide +kernel
theorem dX2_readPosition_49 : decode cX2_readPosition 49 = .ok (.ireturn, 1) := by decide +kernel
theorem dX2_readPosition_50 : decode cX2_readPosition 50 = .ok (.aload_n 0, 1) := by decide +kernel
theorem dX2_readPosition_51 : decode cX2_readPosition 51 = .ok (.dup, 1) := by decide +kernel
theorem dX2_readPosition_52 : decode cX2_readPosition 52 = .ok (.getfield 26, 3) := by decide +kernel
theorem dX2_readPosition_55 : decode cX2_readPosition 55 = .ok (.iconst 1, 1) := by decide +kernel
theorem dX2_readPosition_56 : decode cX2_readPosition 56 = .ok (.iadd, 1) := by decide +kernel
theorem dX2_readPosition_57 : decode cX2_readPosition 57 = .ok (.putfield 26, 3) := by decide +kernel
theorem dX2_readPosition_60 : decode cX2_readPosition 60 = .ok (.iconst 0, 1) := by decide +kernel
theorem dX2_readPosition_61 : decode cX2_readPosition 61 = .ok (.istore_n 3, 1) := by decide +kernel
theorem dX2_readPosition_62 : decode cX2_readPosition 62 = .ok (.iload_n 3, 1) := by decide +kernel
theorem dX2_readPosition_63 : decode cX2_readPosition 63 = .ok (.iconst 2, 1) := by decide +kernel
theorem dX2_readPosition_64 : decode cX2_readPosition 64 = .ok (.if_icmp .ge 28, 3) := by decide +kernel
theorem dX2_readPosition_67 : decode cX2_readPosition 67 = .ok (.aload_n 0, 1) := by decide +kernel
theorem dX2_readPosition_68 : decode cX2_readPosition 68 = .ok (.invokevirtual 44, 3) := by decide +kernel
theorem dX2_readPosition_71 : decode cX2_readPosition 71 = .ok (.bipush 43, 2) := by decide +kernel
theorem dX2_readPosition_73 : decode cX2_readPosition 73 = .ok (.if_icmp .ne 19, 3) := by decide +kernel
theorem dX2_readPosition_76 : decode cX2_readPosition 76 = .ok (.iinc 3 1, 3) := by decide +kernel
theorem dX2_readPosition_79 : decode cX2_readPosition 79 = .ok (.aload_n 0, 1) := by decide +kernel
theorem dX2_readPosition_80 : decode cX2_readPosition 80 = .ok (.dup, 1) := by decide +kernel
theorem dX2_readPosition_81 : decode cX2_readPosition 81 = .ok (.getfield 26, 3) := by decide +kernel
theorem dX2_readPosition_84 : decode cX2_readPosition 84 = .ok (.iconst 1, 1) := by decide +kernel
theorem dX2_readPosition_85 : decode cX2_readPosition 85 = .ok (.iadd, 1) := by decide +kernel
theorem dX2_readPosition_86 : decode cX2_readPosition 86 = .ok (.putfield 26, 3) := by decide +kernel
theorem dX2_readPosition_89 : decode cX2_readPosition 89 = .ok (.goto (-27), 3) := by decide +kernel
theorem dX2_readPosition_92 : decode cX2_readPosition 92 = .ok (.aload_n 0, 1) := by decide +kernel
theorem dX2_readPosition_93 : decode cX2_readPosition 93 = .ok (.iload_n 1, 1) := by decide +kernel
theorem dX2_readPosition_94 : decode cX2_readPosition 94 = .ok (.bipush 6, 2) := by decide +kernel
theorem dX2_readPosition_96 : decode cX2_readPosition 96 = .ok (.iload_n 2, 1) := by decide +kernel
theorem dX2_readPosition_97 : decode cX2_readPosition 97 = .ok (.imul, 1) := by decide +kernel
theorem dX2_readPosition_98 : decode cX2_readPosition 98 = .ok (.iadd, 1) := by decide +kernel
theorem dX2_readPosition_99 : decode cX2_readPosition 99 = .ok (.bipush 36, 2) := by decide +kernel
theorem dX2_readPosition_101 : decode cX2_readPosition 101 = .ok (.iload_n 3, 1) := by decide +kernel
theorem dX2_readPosition_102 : decode cX2_readPosition 102 = .ok (.imul, 1) := by decide +kernel
theorem dX2_readPosition_103 : decode cX2_readPosition 103 = .ok (.iadd, 1) := by decide +kernel
theorem dX2_readPosition_104 : decode cX2_readPosition 104 = .ok (.invokevirtual 47, 3) := by decide +kernel
theorem dX2_readPosition_107 : decode cX2_readPosition 107 = .ok (.iconst 1, 1) := by decide +kernel
theorem dX2_readPosition_108 : decode cX2_readPosition 108 = .ok (.ireturn, 1) := by decide +kernel
theorem dX2_note_0 : decode cX2_note 0 = .ok (.aload_n 0, 1) := by decide +kernel
theorem dX2_note_1 : decode cX2_note 1 = .ok (.getfield 18, 3) := by decide +kernel
theorem dX2_note_4 : decode cX2_note 4 = .ok (.iload_n 1, 1) := by decide +kernel
theorem dX2_note_5 : decode cX2_note 5 = .ok (.invokevirtual 51, 3) := by decide +kernel
theorem dX2_note_8 : decode cX2_note 8 = .ok (.iconst (-1), 1) := by decide +kernel
theorem dX2_note_9 : decode cX2_note 9 = .ok (.if_icmp .eq 8, 3) := by decide +kernel
theorem dX2_note_12 : decode cX2_note 12 = .ok (.aload_n 0, 1) := by decide +kernel
theorem dX2_note_13 : decode cX2_note 13 = .ok (.iconst 1, 1) := by decide +kernel
theorem dX2_note_14 : decode cX2_note 14 = .ok (.putfield 29, 3) := by decide +kernel
theorem dX2_note_17 : decode cX2_note 17 = .ok (.aload_n 0, 1) := by decide +kernel
theorem dX2_note_18 : decode cX2_note 18 = .ok (.getfield 18, 3) := by decide +kernel
theorem dX2_note_21 : decode cX2_note 21 = .ok (.iload_n 1, 1) := by decide +kernel
theorem dX2_note_22 : decode cX2_note 22 = .ok (.invokevirtual 55, 3) := by decide +kernel
theorem dX2_note_25 : decode cX2_note 25 = .ok (.return_, 1) := by decide +kernel
theorem dX2_signHere_0 : decode cX2_signHere 0 = .ok (.aload_n 0, 1) := by decide +kernel
theorem dX2_signHere_1 : decode cX2_signHere 1 = .ok (.getfield 26, 3) := by decide +kernel
theorem dX2_signHere_4 : decode cX2_signHere 4 = .ok (.ifCond .lt 35, 3) := by decide +kernel
theorem dX2_signHere_7 : decode cX2_signHere 7 = .ok (.aload_n 0, 1) := by decide +kernel
theorem dX2_signHere_8 : decode cX2_signHere 8 = .ok (.getfield 26, 3) := by decide +kernel
theorem dX2_signHere_11 : decode cX2_signHere 11 = .ok (.aload_n 0, 1) := by decide +kernel
theorem dX2_signHere_12 : decode cX2_signHere 12 = .ok (.getfield 22, 3) := by decide +kernel
theorem dX2_signHere_15 : decode cX2_signHere 15 = .ok (.if_icmp .ge 24, 3) := by decide +kernel
theorem dX2_signHere_18 : decode cX2_signHere 18 = .ok (.aload_n 0, 1) := by decide +kernel
theorem dX2_signHere_19 : decode cX2_signHere 19 = .ok (.getfield 26, 3) := by decide +kernel
theorem dX2_signHere_22 : decode cX2_signHere 22 = .ok (.bipush 60, 2) := by decide +kernel
theorem dX2_signHere_24 : decode cX2_signHere 24 = .ok (.if_icmp .ge 15, 3) := by decide +kernel
theorem dX2_signHere_27 : decode cX2_signHere 27 = .ok (.aload_n 0, 1) := by decide +kernel
theorem dX2_signHere_28 : decode cX2_signHere 28 = .ok (.getfield 9, 3) := by decide +kernel
theorem dX2_signHere_31 : decode cX2_signHere 31 = .ok (.aload_n 0, 1) := by decide +kernel
theorem dX2_signHere_32 : decode cX2_signHere 32 = .ok (.getfield 26, 3) := by decide +kernel
theorem dX2_signHere_35 : decode cX2_signHere 35 = .ok (.iaload, 1) := by decide +kernel
theorem dX2_signHere_36 : decode cX2_signHere 36 = .ok (.goto 4, 3) := by decide +kernel
theorem dX2_signHere_39 : decode cX2_signHere 39 = .ok (.iconst (-1), 1) := by decide +kernel
theorem dX2_signHere_40 : decode cX2_signHere 40 = .ok (.ireturn, 1) := by decide +kernel
theorem dX3_init_0 : decode cX3_init 0 = .ok (.aload_n 0, 1) := by decide +kernel
theorem dX3_init_1 : decode cX3_init 1 = .ok (.invokespecial 3, 3) := by decide +kernel
theorem dX3_init_4 : decode cX3_init 4 = .ok (.aload_n 0, 1) := by decide +kernel
theorem dX3_init_5 : decode cX3_init 5 = .ok (.bipush 8, 2) := by decide +kernel
theorem dX3_init_7 : decode cX3_init 7 = .ok (.anewarray 9, 3) := by decide +kernel
theorem dX3_init_10 : decode cX3_init 10 = .ok (.putfield 11, 3) := by decide +kernel
theorem dX3_init_13 : decode cX3_init 13 = .ok (.iconst 0, 1) := by decide +kernel
theorem dX3_init_14 : decode cX3_init 14 = .ok (.istore_n 1, 1) := by decide +kernel
theorem dX3_init_15 : decode cX3_init 15 = .ok (.iload_n 1, 1) := by decide +kernel
theorem dX3_init_16 : decode cX3_init 16 = .ok (.bipush 8, 2) := by decide +kernel
theorem dX3_init_18 : decode cX3_init 18 = .ok (.if_icmp .ge 22, 3) := by decide +kernel
theorem dX3_init_21 : decode cX3_init 21 = .ok (.aload_n 0, 1) := by decide +kernel
theorem dX3_init_22 : decode cX3_init 22 = .ok (.getfield 11, 3) := by decide +kernel
theorem dX3_init_25 : decode cX3_init 25 = .ok (.iload_n 1, 1) := by decide +kernel
theorem dX3_init_26 : decode cX3_init 26 = .ok (.new 9, 3) := by decide +kernel
theorem dX3_init_29 : decode cX3_init 29 = .ok (.dup, 1) := by decide +kernel
theorem dX3_init_30 : decode cX3_init 30 = .ok (.invokespecial 17, 3) := by decide +kernel
theorem dX3_init_33 : decode cX3_init 33 = .ok (.aastore, 1) := by decide +kernel
theorem dX3_init_34 : decode cX3_init 34 = .ok (.iinc 1 1, 3) := by decide +kernel
theorem dX3_init_37 : decode cX3_init 37 = .ok (.goto (-22), 3) := by decide +kernel
theorem dX3_init_40 : decode cX3_init 40 = .ok (.return_, 1) := by decide +kernel
theorem dX3_keep_0 : decode cX3_keep 0 = .ok (.aload_n 0, 1) := by decide +kernel
theorem dX3_keep_1 : decode cX3_keep 1 = .ok (.getfield 11, 3) := by decide +kernel
theorem dX3_keep_4 : decode cX3_keep 4 = .ok (.aload_n 0, 1) := by decide +kernel
theorem dX3_keep_5 : decode cX3_keep 5 = .ok (.getfield 18, 3) := by decide +kernel
theorem dX3_keep_8 : decode cX3_keep 8 = .ok (.bipush 8, 2) := by decide +kernel
theorem dX3_keep_10 : decode cX3_keep 10 = .ok (.invokestatic 22, 3) := by decide +kernel
theorem dX3_keep_13 : decode cX3_keep 13 = .ok (.aaload, 1) := by decide +kernel
theorem dX3_keep_14 : decode cX3_keep 14 = .ok (.aload_n 1, 1) := by decide +kernel
theorem dX3_keep_15 : decode cX3_keep 15 = .ok (.invokevirtual 28, 3) := by decide +kernel
theorem dX3_keep_18 : decode cX3_keep 18 = .ok (.aload_n 0, 1) := by decide +kernel
theorem dX3_keep_19 : decode cX3_keep 19 = .ok (.aload_n 0, 1) := by decide +kernel
theorem dX3_keep_20 : decode cX3_keep 20 = .ok (.getfield 18, 3) := by decide +kernel
theorem dX3_keep_23 : decode cX3_keep 23 = .ok (.iconst 1, 1) := by decide +kernel
theorem dX3_keep_24 : decode cX3_keep 24 = .ok (.iadd, 1) := by decide +kernel
theorem dX3_keep_25 : decode cX3_keep 25 = .ok (.bipush 8, 2) := by decide +kernel
theorem dX3_keep_27 : decode cX3_keep 27 = .ok (.invokestatic 22, 3) := by decide +kernel
theorem dX3_keep_30 : decode cX3_keep 30 = .ok (.putfield 18, 3) := by decide +kernel
theorem dX3_keep_33 : decode cX3_keep 33 = .ok (.aload_n 0, 1) := by decide +kernel
theorem dX3_keep_34 : decode cX3_keep 34 = .ok (.aload_n 0, 1) := by decide +kernel
theorem dX3_keep_35 : decode cX3_keep 35 = .ok (.getfield 32, 3) := by decide +kernel
theorem dX3_keep_38 : decode cX3_keep 38 = .ok (.iconst 1, 1) := by decide +kernel
theorem dX3_keep_39 : decode cX3_keep 39 = .ok (.iadd, 1) := by decide +kernel
theorem dX3_keep_40 : decode cX3_keep 40 = .ok (.bipush 8, 2) := by decide +kernel
theorem dX3_keep_42 : decode cX3_keep 42 = .ok (.invokestatic 35, 3) := by decide +kernel
theorem dX3_keep_45 : decode cX3_keep 45 = .ok (.putfield 32, 3) := by decide +kernel
theorem dX3_keep_48 : decode cX3_keep 48 = .ok (.return_, 1) := by decide +kernel
theorem dX3_bringBack_0 : decode cX3_bringBack 0 = .ok (.aload_n 0, 1) := by decide +kernel
theorem dX3_bringBack_1 : decode cX3_bringBack 1 = .ok (.getfield 32, 3) := by decide +kernel
theorem dX3_bringBack_4 : decode cX3_bringBack 4 = .ok (.ifCond .ne 5, 3) := by decide +kernel
theorem dX3_bringBack_7 : decode cX3_bringBack 7 = .ok (.iconst 0, 1) := by decide +kernel
theorem dX3_bringBack_8 : decode cX3_bringBack 8 = .ok (.ireturn, 1) := by decide +kernel
theorem dX3_bringBack_9 : decode cX3_bringBack 9 = .ok (.aload_n 0, 1) := by decide +kernel
theorem dX3_bringBack_10 : decode cX3_bringBack 10 = .ok (.aload_n 0, 1) := by decide +kernel
theorem dX3_bringBack_11 : decode cX3_bringBack 11 = .ok (.getfield 18, 3) := by decide +kernel
theorem dX3_bringBack_14 : decode cX3_bringBack 14 = .ok (.iconst 1, 1) := by decide +kernel
theorem dX3_bringBack_15 : decode cX3_bringBack 15 = .ok (.isub, 1) := by decide +kernel
theorem dX3_bringBack_16 : decode cX3_bringBack 16 = .ok (.bipush 8, 2) := by decide +kernel
theorem dX3_bringBack_18 : decode cX3_bringBack 18 = .ok (.invokestatic 22, 3) := by decide +kernel
theorem dX3_bringBack_21 : decode cX3_bringBack 21 = .ok (.putfield 18, 3) := by decide +kernel
theorem dX3_bringBack_24 : decode cX3_bringBack 24 = .ok (.aload_n 1, 1) := by decide +kernel
theorem dX3_bringBack_25 : decode cX3_bringBack 25 = .ok (.aload_n 0, 1) := by decide +kernel
theorem dX3_bringBack_26 : decode cX3_bringBack 26 = .ok (.getfield 11, 3) := by decide +kernel
theorem dX3_bringBack_29 : decode cX3_bringBack 29 = .ok (.aload_n 0, 1) := by decide +kernel
theorem dX3_bringBack_30 : decode cX3_bringBack 30 = .ok (.getfield 18, 3) := by decide +kernel
theorem dX3_bringBack_33 : decode cX3_bringBack 33 = .ok (.bipush 8, 2) := by decide +kernel
theorem dX3_bringBack_35 : decode cX3_bringBack 35 = .ok (.invokestatic 22, 3) := by decide +kernel
theorem dX3_bringBack_38 : decode cX3_bringBack 38 = .ok (.aaload, 1) := by decide +kernel
theorem dX3_bringBack_39 : decode cX3_bringBack 39 = .ok (.invokevirtual 28, 3) := by decide +kernel
theorem dX3_bringBack_42 : decode cX3_bringBack 42 = .ok (.aload_n 0, 1) := by decide +kernel
theorem dX3_bringBack_43 : decode cX3_bringBack 43 = .ok (.dup, 1) := by decide +kernel
theorem dX3_bringBack_44 : decode cX3_bringBack 44 = .ok (.getfield 32, 3) := by decide +kernel
theorem dX3_bringBack_47 : decode cX3_bringBack 47 = .ok (.iconst 1, 1) := by decide +kernel
theorem dX3_bringBack_48 : decode cX3_bringBack 48 = .ok (.isub, 1) := by decide +kernel
theorem dX3_bringBack_49 : decode cX3_bringBack 49 = .ok (.putfield 32, 3) := by decide +kernel
theorem dX3_bringBack_52 : decode cX3_bringBack 52 = .ok (.iconst 1, 1) := by decide +kernel
theorem dX3_bringBack_53 : decode cX3_bringBack 53 = .ok (.ireturn, 1) := by decide +kernel
theorem dX4_init_0 : decode cX4_init 0 = .ok (.aload_n 0, 1) := by decide +kernel
theorem dX4_init_1 : decode cX4_init 1 = .ok (.invokespecial 3, 3) := by decide +kernel
theorem dX4_init_4 : decode cX4_init 4 = .ok (.aload_n 0, 1) := by decide +kernel
theorem dX4_init_5 : decode cX4_init 5 = .ok (.sipush 756, 3) := by decide +kernel
theorem dX4_init_8 : decode cX4_init 8 = .ok (.newarray .int, 2) := by decide +kernel
theorem dX4_init_10 : decode cX4_init 10 = .ok (.putfield 9, 3) := by decide +kernel
theorem dX4_init_13 : decode cX4_init 13 = .ok (.aload_n 0, 1) := by decide +kernel
theorem dX4_init_14 : decode cX4_init 14 = .ok (.aload_n 1, 1) := by decide +kernel
theorem dX4_init_15 : decode cX4_init 15 = .ok (.putfield 15, 3) := by decide +kernel
theorem dX4_init_18 : decode cX4_init 18 = .ok (.iconst 0, 1) := by decide +kernel
theorem dX4_init_19 : decode cX4_init 19 = .ok (.istore_n 2, 1) := by decide +kernel
theorem dX4_init_20 : decode cX4_init 20 = .ok (.iload_n 2, 1) := by decide +kernel
theorem dX4_init_21 : decode cX4_init 21 = .ok (.bipush 108, 2) := by decide +kernel
theorem dX4_init_23 : decode cX4_init 23 = .ok (.if_icmp .ge 39, 3) := by decide +kernel
theorem dX4_init_26 : decode cX4_init 26 = .ok (.iconst 0, 1) := by decide +kernel
theorem dX4_init_27 : decode cX4_init 27 = .ok (.istore_n 3, 1) := by decide +kernel
theorem dX4_init_28 : decode cX4_init 28 = .ok (.iload_n 3, 1) := by decide +kernel
theorem dX4_init_29 : decode cX4_init 29 = .ok (.bipush 7, 2) := by decide +kernel
theorem dX4_init_31 : decode cX4_init 31 = .ok (.if_icmp .ge 25, 3) := by decide +kernel
theorem dX4_init_34 : decode cX4_init 34 = .ok (.aload_n 0, 1) := by decide +kernel
theorem dX4_init_35 : decode cX4_init 35 = .ok (.getfield 9, 3) := by decide +kernel
theorem dX4_init_38 : decode cX4_init 38 = .ok (.iload_n 2, 1) := by decide +kernel
theorem dX4_init_39 : decode cX4_init 39 = .ok (.bipush 7, 2) := by decide +kernel
theorem dX4_init_41 : decode cX4_init 41 = .ok (.imul, 1) := by decide +kernel
theorem dX4_init_42 : decode cX4_init 42 = .ok (.iload_n 3, 1) := by decide +kernel
theorem dX4_init_43 : decode cX4_init 43 = .ok (.iadd, 1) := by decide +kernel
theorem dX4_init_44 : decode cX4_init 44 = .ok (.iload_n 2, 1) := by decide +kernel
theorem dX4_init_45 : decode cX4_init 45 = .ok (.iload_n 3, 1) := by decide +kernel
theorem dX4_init_46 : decode cX4_init 46 = .ok (.invokestatic 19, 3) := by decide +kernel
theorem dX4_init_49 : decode cX4_init 49 = .ok (.iastore, 1) := by decide +kernel
theorem dX4_init_50 : decode cX4_init 50 = .ok (.iinc 3 1, 3) := by decide +kernel
theorem dX4_init_53 : decode cX4_init 53 = .ok (.goto (-25), 3) := by decide +kernel
theorem dX4_init_56 : decode cX4_init 56 = .ok (.iinc 2 1, 3) := by decide +kernel
theorem dX4_init_59 : decode cX4_init 59 = .ok (.goto (-39), 3) := by decide +kernel
theorem dX4_init_62 : decode cX4_init 62 = .ok (.return_, 1) := by decide +kernel
theorem dX4_next_0 : decode cX4_next 0 = .ok (.iload_n 1, 1) := by decide +kernel
theorem dX4_next_1 : decode cX4_next 1 = .ok (.invokestatic 23, 3) := by decide +kernel
theorem dX4_next_4 : decode cX4_next 4 = .ok (.ifCond .eq 10, 3) := by decide +kernel
theorem dX4_next_7 : decode cX4_next 7 = .ok (.iload_n 2, 1) := by decide +kernel
theorem dX4_next_8 : decode cX4_next 8 = .ok (.invokestatic 27, 3) := by decide +kernel
theorem dX4_next_11 : decode cX4_next 11 = .ok (.ifCond .ne 5, 3) := by decide +kernel
theorem dX4_next_14 : decode cX4_next 14 = .ok (.iconst (-1), 1) := by decide +kernel
theorem dX4_next_15 : decode cX4_next 15 = .ok (.ireturn, 1) := by decide +kernel
theorem dX4_next_16 : decode cX4_next 16 = .ok (.aload_n 0, 1) := by decide +kernel
theorem dX4_next_17 : decode cX4_next 17 = .ok (.getfield 9, 3) := by decide +kernel
theorem dX4_next_20 : decode cX4_next 20 = .ok (.iload_n 1, 1) := by decide +kernel
theorem dX4_next_21 : decode cX4_next 21 = .ok (.bipush 7, 2) := by decide +kernel
theorem dX4_next_23 : decode cX4_next 23 = .ok (.imul, 1) := by decide +kernel
theorem dX4_next_24 : decode cX4_next 24 = .ok (.iload_n 2, 1) := by decide +kernel
theorem dX4_next_25 : decode cX4_next 25 = .ok (.iadd, 1) := by decide +kernel
theorem dX4_next_26 : decode cX4_next 26 = .ok (.iaload, 1) := by decide +kernel
theorem dX4_next_27 : decode cX4_next 27 = .ok (.istore_n 3, 1) := by decide +kernel
theorem dX4_next_28 : decode cX4_next 28 = .ok (.iload_n 3, 1) := by decide +kernel
theorem dX4_next_29 : decode cX4_next 29 = .ok (.invokestatic 23, 3) := by decide +kernel
theorem dX4_next_32 : decode cX4_next 32 = .ok (.ifCond .eq 19, 3) := by decide +kernel
theorem dX4_next_35 : decode cX4_next 35 = .ok (.aload_n 0, 1) := by decide +kernel
theorem dX4_next_36 : decode cX4_next 36 = .ok (.getfield 15, 3) := by decide +kernel
theorem dX4_next_39 : decode cX4_next 39 = .ok (.getfield 30, 3) := by decide +kernel
theorem dX4_next_42 : decode cX4_next 42 = .ok (.iload_n 3, 1) := by decide +kernel
theorem dX4_next_43 : decode cX4_next 43 = .ok (.iaload, 1) := by decide +kernel
theorem dX4_next_44 : decode cX4_next 44 = .ok (.ifCond .ne 7, 3) := by decide +kernel
theorem dX4_next_47 : decode cX4_next 47 = .ok (.iload_n 3, 1) := by decide +kernel
theorem dX4_next_48 : decode cX4_next 48 = .ok (.goto 4, 3) := by decide +kernel
theorem dX4_next_51 : decode cX4_next 51 = .ok (.iconst (-1), 1) := by decide +kernel
theorem dX4_next_52 : decode cX4_next 52 = .ok (.ireturn, 1) := by decide +kernel
theorem dX4_ticks_0 : decode cX4_ticks 0 = .ok (.iload_n 1, 1) := by decide +kernel
theorem dX4_ticks_1 : decode cX4_ticks 1 = .ok (.invokestatic 23, 3) := by decide +kernel
theorem dX4_ticks_4 : decode cX4_ticks 4 = .ok (.ifCond .eq 10, 3) := by decide +kernel
theorem dX4_ticks_7 : decode cX4_ticks 7 = .ok (.iload_n 2, 1) := by decide +kernel
theorem dX4_ticks_8 : decode cX4_ticks 8 = .ok (.invokestatic 27, 3) := by decide +kernel
theorem dX4_ticks_11 : decode cX4_ticks 11 = .ok (.ifCond .ne 5, 3) := by decide +kernel
theorem dX4_ticks_14 : decode cX4_ticks 14 = .ok (.iconst 1, 1) := by decide +kernel
theorem dX4_ticks_15 : decode cX4_ticks 15 = .ok (.ireturn, 1) := by decide +kernel
theorem dX4_ticks_16 : decode cX4_ticks 16 = .ok (.aload_n 0, 1) := by decide +kernel
theorem dX4_ticks_17 : decode cX4_ticks 17 = .ok (.getfield 15, 3) := by decide +kernel
theorem dX4_ticks_20 : decode cX4_ticks 20 = .ok (.getfield 35, 3) := by decide +kernel
theorem dX4_ticks_23 : decode cX4_ticks 23 = .ok (.iload_n 1, 1) := by decide +kernel
theorem dX4_ticks_24 : decode cX4_ticks 24 = .ok (.bipush 36, 2) := by decide +kernel
theorem dX4_ticks_26 : decode cX4_ticks 26 = .ok (.idiv, 1) := by decide +kernel
theorem dX4_ticks_27 : decode cX4_ticks 27 = .ok (.iaload, 1) := by decide +kernel
theorem dX4_ticks_28 : decode cX4_ticks 28 = .ok (.istore_n 3, 1) := by decide +kernel
theorem dX4_ticks_29 : decode cX4_ticks 29 = .ok (.iload_n 3, 1) := by decide +kernel
theorem dX4_ticks_30 : decode cX4_ticks 30 = .ok (.ifCond .eq 16, 3) := by decide +kernel
theorem dX4_ticks_33 : decode cX4_ticks 33 = .ok (.iload_n 3, 1) := by decide +kernel
theorem dX4_ticks_34 : decode cX4_ticks 34 = .ok (.getstatic 38, 3) := by decide +kernel
theorem dX4_ticks_37 : decode cX4_ticks 37 = .ok (.iload_n 2, 1) := by decide +kernel
theorem dX4_ticks_38 : decode cX4_ticks 38 = .ok (.iaload, 1) := by decide +kernel
theorem dX4_ticks_39 : decode cX4_ticks 39 = .ok (.if_icmp .ne 7, 3) := by decide +kernel
theorem dX4_ticks_42 : decode cX4_ticks 42 = .ok (.iconst 2, 1) := by decide +kernel
theorem dX4_ticks_43 : decode cX4_ticks 43 = .ok (.goto 4, 3) := by decide +kernel
theorem dX4_ticks_46 : decode cX4_ticks 46 = .ok (.iconst 1, 1) := by decide +kernel
theorem dX4_ticks_47 : decode cX4_ticks 47 = .ok (.ireturn, 1) := by decide +kernel
theorem dX4_neighbour_0 : decode cX4_neighbour 0 = .ok (.iload_n 1, 1) := by decide +kernel
theorem dX4_neighbour_1 : decode cX4_neighbour 1 = .ok (.invokestatic 27, 3) := by decide +kernel
theorem dX4_neighbour_4 : decode cX4_neighbour 4 = .ok (.ifCond .ne 5, 3) := by decide +kernel
theorem dX4_neighbour_7 : decode cX4_neighbour 7 = .ok (.iconst (-1), 1) := by decide +kernel
theorem dX4_neighbour_8 : decode cX4_neighbour 8 = .ok (.ireturn, 1) := by decide +kernel
theorem dX4_neighbour_9 : decode cX4_neighbour 9 = .ok (.iload_n 0, 1) := by decide +kernel
theorem dX4_neighbour_10 : decode cX4_neighbour 10 = .ok (.bipush 6, 2) := by decide +kernel
theorem dX4_neighbour_12 : decode cX4_neighbour 12 = .ok (.irem, 1) := by decide +kernel
theorem dX4_neighbour_13 : decode cX4_neighbour 13 = .ok (.getstatic 41, 3) := by decide +kernel
theorem dX4_neighbour_16 : decode cX4_neighbour 16 = .ok (.iload_n 1, 1) := by decide +kernel
theorem dX4_neighbour_17 : decode cX4_neighbour 17 = .ok (.iaload, 1) := by decide +kernel
theorem dX4_neighbour_18 : decode cX4_neighbour 18 = .ok (.iadd, 1) := by decide +kernel
theorem dX4_neighbour_19 : decode cX4_neighbour 19 = .ok (.istore_n 2, 1) := by decide +kernel
theorem dX4_neighbour_20 : decode cX4_neighbour 20 = .ok (.iload_n 0, 1) := by decide +kernel
theorem dX4_neighbour_21 : decode cX4_neighbour 21 = .ok (.bipush 6, 2) := by decide +kernel
theorem dX4_neighbour_23 : decode cX4_neighbour 23 = .ok (.idiv, 1) := by decide +kernel
theorem dX4_neighbour_24 : decode cX4_neighbour 24 = .ok (.bipush 6, 2) := by decide +kernel
theorem dX4_neighbour_26 : decode cX4_neighbour 26 = .ok (.irem, 1) := by decide +kernel
theorem dX4_neighbour_27 : decode cX4_neighbour 27 = .ok (.getstatic 44, 3) := by decide +kernel
theorem dX4_neighbour_30 : decode cX4_neighbour 30 = .ok (.iload_n 1, 1) := by decide +kernel
theorem dX4_neighbour_31 : decode cX4_neighbour 31 = .ok (.iaload, 1) := by decide +kernel
theorem dX4_neighbour_32 : decode cX4_neighbour 32 = .ok (.iadd, 1) := by decide +kernel
theorem dX4_neighbour_33 : decode cX4_neighbour 33 = .ok (.istore_n 3, 1) := by decide +kernel
theorem dX4_neighbour_34 : decode cX4_neighbour 34 = .ok (.iload_n 0, 1) := by decide +kernel
theorem dX4_neighbour_35 : decode cX4_neighbour 35 = .ok (.bipush 36, 2) := by decide +kernel
theorem dX4_neighbour_37 : decode cX4_neighbour 37 = .ok (.idiv, 1) := by decide +kernel
theorem dX4_neighbour_38 : decode cX4_neighbour 38 = .ok (.getstatic 47, 3) := by decide +kernel
theorem dX4_neighbour_41 : decode cX4_neighbour 41 = .ok (.iload_n 1, 1) := by decide +kernel
theorem dX4_neighbour_42 : decode cX4_neighbour 42 = .ok (.iaload, 1) := by decide +kernel
theorem dX4_neighbour_43 : decode cX4_neighbour 43 = .ok (.iadd, 1) := by decide +kernel
theorem dX4_neighbour_44 : decode cX4_neighbour 44 = .ok (.istore 4, 2) := by decide +kernel
theorem dX4_neighbour_46 : decode cX4_neighbour 46 = .ok (.iload_n 2, 1) := by decide +kernel
theorem dX4_neighbour_47 : decode cX4_neighbour 47 = .ok (.ifCond .lt 31, 3) := by decide +kernel
theorem dX4_neighbour_50 : decode cX4_neighbour 50 = .ok (.iload_n 2, 1) := by decide +kernel
theorem dX4_neighbour_51 : decode cX4_neighbour 51 = .ok (.bipush 6, 2) := by decide +kernel
theorem dX4_neighbour_53 : decode cX4_neighbour 53 = .ok (.if_icmp .ge 25, 3) := by decide +kernel
theorem dX4_neighbour_56 : decode cX4_neighbour 56 = .ok (.iload_n 3, 1) := by decide +kernel
theorem dX4_neighbour_57 : decode cX4_neighbour 57 = .ok (.ifCond .lt 21, 3) := by decide +kernel
theorem dX4_neighbour_60 : decode cX4_neighbour 60 = .ok (.iload_n 3, 1) := by decide +kernel
theorem dX4_neighbour_61 : decode cX4_neighbour 61 = .ok (.bipush 6, 2) := by decide +kernel
theorem dX4_neighbour_63 : decode cX4_neighbour 63 = .ok (.if_icmp .ge 15, 3) := by decide +kernel
theorem dX4_neighbour_66 : decode cX4_neighbour 66 = .ok (.iload 4, 2) := by decide +kernel
theorem dX4_neighbour_68 : decode cX4_neighbour 68 = .ok (.invokestatic 50, 3) := by decide +kernel
theorem dX4_neighbour_71 : decode cX4_neighbour 71 = .ok (.ifCond .eq 7, 3) := by decide +kernel
theorem dX4_neighbour_74 : decode cX4_neighbour 74 = .ok (.iconst 1, 1) := by decide +kernel
theorem dX4_neighbour_75 : decode cX4_neighbour 75 = .ok (.goto 4, 3) := by decide +kernel
theorem dX4_neighbour_78 : decode cX4_neighbour 78 = .ok (.iconst 0, 1) := by decide +kernel
theorem dX4_neighbour_79 : decode cX4_neighbour 79 = .ok (.istore 5, 2) := by decide +kernel
theorem dX4_neighbour_81 : decode cX4_neighbour 81 = .ok (.iload 5, 2) := by decide +kernel
theorem dX4_neighbour_83 : decode cX4_neighbour 83 = .ok (.ifCond .eq 18, 3) := by decide +kernel
theorem dX4_neighbour_86 : decode cX4_neighbour 86 = .ok (.iload_n 2, 1) := by decide +kernel
theorem dX4_neighbour_87 : decode cX4_neighbour 87 = .ok (.bipush 6, 2) := by decide +kernel
theorem dX4_neighbour_89 : decode cX4_neighbour 89 = .ok (.iload_n 3, 1) := by decide +kernel
theorem dX4_neighbour_90 : decode cX4_neighbour 90 = .ok (.imul, 1) := by decide +kernel
theorem dX4_neighbour_91 : decode cX4_neighbour 91 = .ok (.iadd, 1) := by decide +kernel
theorem dX4_neighbour_92 : decode cX4_neighbour 92 = .ok (.bipush 36, 2) := by decide +kernel
theorem dX4_neighbour_94 : decode cX4_neighbour 94 = .ok (.iload 4, 2) := by decide +kernel
theorem dX4_neighbour_96 : decode cX4_neighbour 96 = .ok (.imul, 1) := by decide +kernel
theorem dX4_neighbour_97 : decode cX4_neighbour 97 = .ok (.iadd, 1) := by decide +kernel
theorem dX4_neighbour_98 : decode cX4_neighbour 98 = .ok (.goto 4, 3) := by decide +kernel
theorem dX4_neighbour_101 : decode cX4_neighbour 101 = .ok (.iconst (-1), 1) := by decide +kernel
theorem dX4_neighbour_102 : decode cX4_neighbour 102 = .ok (.ireturn, 1) := by decide +kernel
theorem dX5_init_0 : decode cX5_init 0 = .ok (.aload_n 0, 1) := by decide +kernel
theorem dX5_init_1 : decode cX5_init 1 = .ok (.invokespecial 3, 3) := by decide +kernel
theorem dX5_init_4 : decode cX5_init 4 = .ok (.aload_n 0, 1) := by decide +kernel
theorem dX5_init_5 : decode cX5_init 5 = .ok (.bipush 6, 2) := by decide +kernel
theorem dX5_init_7 : decode cX5_init 7 = .ok (.newarray .int, 2) := by decide +kernel
theorem dX5_init_9 : decode cX5_init 9 = .ok (.putfield 9, 3) := by decide +kernel
theorem dX5_init_12 : decode cX5_init 12 = .ok (.return_, 1) := by decide +kernel
theorem dX5_has_0 : decode cX5_has 0 = .ok (.iload_n 1, 1) := by decide +kernel
theorem dX5_has_1 : decode cX5_has 1 = .ok (.ifCond .lt 21, 3) := by decide +kernel
theorem dX5_has_4 : decode cX5_has 4 = .ok (.iload_n 1, 1) := by decide +kernel
theorem dX5_has_5 : decode cX5_has 5 = .ok (.aload_n 0, 1) := by decide +kernel
theorem dX5_has_6 : decode cX5_has 6 = .ok (.getfield 15, 3) := by decide +kernel
theorem dX5_has_9 : decode cX5_has 9 = .ok (.if_icmp .ge 13, 3) := by decide +kernel
theorem dX5_has_12 : decode cX5_has 12 = .ok (.iload_n 1, 1) := by decide +kernel
theorem dX5_has_13 : decode cX5_has 13 = .ok (.bipush 6, 2) := by decide +kernel
theorem dX5_has_15 : decode cX5_has 15 = .ok (.if_icmp .ge 7, 3) := by decide +kernel
theorem dX5_has_18 : decode cX5_has 18 = .ok (.iconst 1, 1) := by decide +kernel
theorem dX5_has_19 : decode cX5_has 19 = .ok (.goto 4, 3) := by decide +kernel
theorem dX5_has_22 : decode cX5_has 22 = .ok (.iconst 0, 1) := by decide +kernel
theorem dX5_has_23 : decode cX5_has 23 = .ok (.ireturn, 1) := by decide +kernel
theorem dX5_cellAt_0 : decode cX5_cellAt 0 = .ok (.aload_n 0, 1) := by decide +kernel
theorem dX5_cellAt_1 : decode cX5_cellAt 1 = .ok (.iload_n 1, 1) := by decide +kernel
theorem dX5_cellAt_2 : decode cX5_cellAt 2 = .ok (.invokevirtual 19, 3) := by decide +kernel
theorem dX5_cellAt_5 : decode cX5_cellAt 5 = .ok (.ifCond .eq 12, 3) := by decide +kernel
theorem dX5_cellAt_8 : decode cX5_cellAt 8 = .ok (.aload_n 0, 1) := by decide +kernel
theorem dX5_cellAt_9 : decode cX5_cellAt 9 = .ok (.getfield 9, 3) := by decide +kernel
theorem dX5_cellAt_12 : decode cX5_cellAt 12 = .ok (.iload_n 1, 1) := by decide +kernel
theorem dX5_cellAt_13 : decode cX5_cellAt 13 = .ok (.iaload, 1) := by decide +kernel
theorem dX5_cellAt_14 : decode cX5_cellAt 14 = .ok (.goto 4, 3) := by decide +kernel
theorem dX5_cellAt_17 : decode cX5_cellAt 17 = .ok (.iconst (-1), 1) := by decide +kernel
theorem dX5_cellAt_18 : decode cX5_cellAt 18 = .ok (.ireturn, 1) := by decide +kernel
theorem dX5_find_0 : decode cX5_find 0 = .ok (.iconst 0, 1) := by decide +kernel
theorem dX5_find_1 : decode cX5_find 1 = .ok (.istore_n 2, 1) := by decide +kernel
theorem dX5_find_2 : decode cX5_find 2 = .ok (.iload_n 2, 1) := by decide +kernel
theorem dX5_find_3 : decode cX5_find 3 = .ok (.aload_n 0, 1) := by decide +kernel
theorem dX5_find_4 : decode cX5_find 4 = .ok (.getfield 15, 3) := by decide +kernel
theorem dX5_find_7 : decode cX5_find 7 = .ok (.if_icmp .ge 27, 3) := by decide +kernel
theorem dX5_find_10 : decode cX5_find 10 = .ok (.iload_n 2, 1) := by decide +kernel
theorem dX5_find_11 : decode cX5_find 11 = .ok (.bipush 6, 2) := by decide +kernel
theorem dX5_find_13 : decode cX5_find 13 = .ok (.if_icmp .ge 21, 3) := by decide +kernel
theorem dX5_find_16 : decode cX5_find 16 = .ok (.aload_n 0, 1) := by decide +kernel
theorem dX5_find_17 : decode cX5_find 17 = .ok (.getfield 9, 3) := by decide +kernel
theorem dX5_find_20 : decode cX5_find 20 = .ok (.iload_n 2, 1) := by decide +kernel
theorem dX5_find_21 : decode cX5_find 21 = .ok (.iaload, 1) := by decide +kernel
theorem dX5_find_22 : decode cX5_find 22 = .ok (.iload_n 1, 1) := by decide +kernel
theorem dX5_find_23 : decode cX5_find 23 = .ok (.if_icmp .ne 5, 3) := by decide +kernel
theorem dX5_find_26 : decode cX5_find 26 = .ok (.iload_n 2, 1) := by decide +kernel
theorem dX5_find_27 : decode cX5_find 27 = .ok (.ireturn, 1) := by decide +kernel
theorem dX5_find_28 : decode cX5_find 28 = .ok (.iinc 2 1, 3) := by decide +kernel
theorem dX5_find_31 : decode cX5_find 31 = .ok (.goto (-29), 3) := by decide +kernel
theorem dX5_find_34 : decode cX5_find 34 = .ok (.iconst (-1), 1) := by decide +kernel
theorem dX5_find_35 : decode cX5_find 35 = .ok (.ireturn, 1) := by decide +kernel
theorem dX5_add_0 : decode cX5_add 0 = .ok (.aload_n 0, 1) := by decide +kernel
theorem dX5_add_1 : decode cX5_add 1 = .ok (.getfield 15, 3) := by decide +kernel
theorem dX5_add_4 : decode cX5_add 4 = .ok (.ifCond .lt 32, 3) := by decide +kernel
theorem dX5_add_7 : decode cX5_add 7 = .ok (.aload_n 0, 1) := by decide +kernel
theorem dX5_add_8 : decode cX5_add 8 = .ok (.getfield 15, 3) := by decide +kernel
theorem dX5_add_11 : decode cX5_add 11 = .ok (.bipush 6, 2) := by decide +kernel
theorem dX5_add_13 : decode cX5_add 13 = .ok (.if_icmp .ge 23, 3) := by decide +kernel
theorem dX5_add_16 : decode cX5_add 16 = .ok (.aload_n 0, 1) := by decide +kernel
theorem dX5_add_17 : decode cX5_add 17 = .ok (.getfield 9, 3) := by decide +kernel
theorem dX5_add_20 : decode cX5_add 20 = .ok (.aload_n 0, 1) := by decide +kernel
theorem dX5_add_21 : decode cX5_add 21 = .ok (.getfield 15, 3) := by decide +kernel
theorem dX5_add_24 : decode cX5_add 24 = .ok (.iload_n 1, 1) := by decide +kernel
theorem dX5_add_25 : decode cX5_add 25 = .ok (.iastore, 1) := by decide +kernel
theorem dX5_add_26 : decode cX5_add 26 = .ok (.aload_n 0, 1) := by decide +kernel
theorem dX5_add_27 : decode cX5_add 27 = .ok (.dup, 1) := by decide +kernel
theorem dX5_add_28 : decode cX5_add 28 = .ok (.getfield 15, 3) := by decide +kernel
theorem dX5_add_31 : decode cX5_add 31 = .ok (.iconst 1, 1) := by decide +kernel
theorem dX5_add_32 : decode cX5_add 32 = .ok (.iadd, 1) := by decide +kernel
theorem dX5_add_33 : decode cX5_add 33 = .ok (.putfield 15, 3) := by decide +kernel
theorem dX5_add_36 : decode cX5_add 36 = .ok (.return_, 1) := by decide +kernel
theorem dX5_remove_0 : decode cX5_remove 0 = .ok (.aload_n 0, 1) := by decide +kernel
theorem dX5_remove_1 : decode cX5_remove 1 = .ok (.iload_n 1, 1) := by decide +kernel
theorem dX5_remove_2 : decode cX5_remove 2 = .ok (.invokevirtual 19, 3) := by decide +kernel
theorem dX5_remove_5 : decode cX5_remove 5 = .ok (.ifCond .ne 5, 3) := by decide +kernel
theorem dX5_remove_8 : decode cX5_remove 8 = .ok (.iconst 0, 1) := by decide +kernel
theorem dX5_remove_9 : decode cX5_remove 9 = .ok (.ireturn, 1) := by decide +kernel
theorem dX5_remove_10 : decode cX5_remove 10 = .ok (.iload_n 1, 1) := by decide +kernel
theorem dX5_remove_11 : decode cX5_remove 11 = .ok (.iconst 1, 1) := by decide +kernel
theorem dX5_remove_12 : decode cX5_remove 12 = .ok (.iadd, 1) := by decide +kernel
theorem dX5_remove_13 : decode cX5_remove 13 = .ok (.istore_n 2, 1) := by decide +kernel
theorem dX5_remove_14 : decode cX5_remove 14 = .ok (.iload_n 2, 1) := by decide +kernel
theorem dX5_remove_15 : decode cX5_remove 15 = .ok (.aload_n 0, 1) := by decide +kernel
theorem dX5_remove_16 : decode cX5_remove 16 = .ok (.getfield 15, 3) := by decide +kernel
theorem dX5_remove_19 : decode cX5_remove 19 = .ok (.if_icmp .ge 29, 3) := by decide +kernel
theorem dX5_remove_22 : decode cX5_remove 22 = .ok (.iload_n 2, 1) := by decide +kernel
theorem dX5_remove_23 : decode cX5_remove 23 = .ok (.bipush 6, 2) := by decide +kernel
theorem dX5_remove_25 : decode cX5_remove 25 = .ok (.if_icmp .ge 23, 3) := by decide +kernel
theorem dX5_remove_28 : decode cX5_remove 28 = .ok (.aload_n 0, 1) := by decide +kernel
theorem dX5_remove_29 : decode cX5_remove 29 = .ok (.getfield 9, 3) := by decide +kernel
theorem dX5_remove_32 : decode cX5_remove 32 = .ok (.iload_n 2, 1) := by decide +kernel
theorem dX5_remove_33 : decode cX5_remove 33 = .ok (.iconst 1, 1) := by decide +kernel
theorem dX5_remove_34 : decode cX5_remove 34 = .ok (.isub, 1) := by decide +kernel
theorem dX5_remove_35 : decode cX5_remove 35 = .ok (.aload_n 0, 1) := by decide +kernel
theorem dX5_remove_36 : decode cX5_remove 36 = .ok (.getfield 9, 3) := by decide +kernel
theorem dX5_remove_39 : decode cX5_remove 39 = .ok (.iload_n 2, 1) := by decide +kernel
theorem dX5_remove_40 : decode cX5_remove 40 = .ok (.iaload, 1) := by decide +kernel
theorem dX5_remove_41 : decode cX5_remove 41 = .ok (.iastore, 1) := by decide +kernel
theorem dX5_remove_42 : decode cX5_remove 42 = .ok (.iinc 2 1, 3) := by decide +kernel
theorem dX5_remove_45 : decode cX5_remove 45 = .ok (.goto (-31), 3) := by decide +kernel
theorem dX5_remove_48 : decode cX5_remove 48 = .ok (.aload_n 0, 1) := by decide +kernel
theorem dX5_remove_49 : decode cX5_remove 49 = .ok (.dup, 1) := by decide +kernel
theorem dX5_remove_50 : decode cX5_remove 50 = .ok (.getfield 15, 3) := by decide +kernel
theorem dX5_remove_53 : decode cX5_remove 53 = .ok (.iconst 1, 1) := by decide +kernel
theorem dX5_remove_54 : decode cX5_remove 54 = .ok (.isub, 1) := by decide +kernel
theorem dX5_remove_55 : decode cX5_remove 55 = .ok (.putfield 15, 3) := by decide +kernel
theorem dX5_remove_58 : decode cX5_remove 58 = .ok (.iconst 1, 1) := by decide +kernel
theorem dX5_remove_59 : decode cX5_remove 59 = .ok (.ireturn, 1) := by decide +kernel
theorem dX5_move_0 : decode cX5_move 0 = .ok (.aload_n 0, 1) := by decide +kernel
theorem dX5_move_1 : decode cX5_move 1 = .ok (.iload_n 1, 1) := by decide +kernel
theorem dX5_move_2 : decode cX5_move 2 = .ok (.invokevirtual 19, 3) := by decide +kernel
theorem dX5_move_5 : decode cX5_move 5 = .ok (.ifCond .eq 10, 3) := by decide +kernel
theorem dX5_move_8 : decode cX5_move 8 = .ok (.aload_n 0, 1) := by decide +kernel
theorem dX5_move_9 : decode cX5_move 9 = .ok (.getfield 9, 3) := by decide +kernel
theorem dX5_move_12 : decode cX5_move 12 = .ok (.iload_n 1, 1) := by decide +kernel
theorem dX5_move_13 : decode cX5_move 13 = .ok (.iload_n 2, 1) := by decide +kernel
theorem dX5_move_14 : decode cX5_move 14 = .ok (.iastore, 1) := by decide +kernel
theorem dX5_move_15 : decode cX5_move 15 = .ok (.return_, 1) := by decide +kernel
theorem dX5_clear_0 : decode cX5_clear 0 = .ok (.aload_n 0, 1) := by decide +kernel
theorem dX5_clear_1 : decode cX5_clear 1 = .ok (.iconst 0, 1) := by decide +kernel
theorem dX5_clear_2 : decode cX5_clear 2 = .ok (.putfield 15, 3) := by decide +kernel
theorem dX5_clear_5 : decode cX5_clear 5 = .ok (.return_, 1) := by decide +kernel
theorem dX5_copyFrom_0 : decode cX5_copyFrom 0 = .ok (.aload_n 1, 1) := by decide +kernel
theorem dX5_copyFrom_1 : decode cX5_copyFrom 1 = .ok (.getfield 9, 3) := by decide +kernel
theorem dX5_copyFrom_4 : decode cX5_copyFrom 4 = .ok (.iconst 0, 1) := by decide +kernel
theorem dX5_copyFrom_5 : decode cX5_copyFrom 5 = .ok (.aload_n 0, 1) := by decide +kernel
theorem dX5_copyFrom_6 : decode cX5_copyFrom 6 = .ok (.getfield 9, 3) := by decide +kernel
theorem dX5_copyFrom_9 : decode cX5_copyFrom 9 = .ok (.iconst 0, 1) := by decide +kernel
theorem dX5_copyFrom_10 : decode cX5_copyFrom 10 = .ok (.bipush 6, 2) := by decide +kernel
theorem dX5_copyFrom_12 : decode cX5_copyFrom 12 = .ok (.invokestatic 23, 3) := by decide +kernel
theorem dX5_copyFrom_15 : decode cX5_copyFrom 15 = .ok (.aload_n 0, 1) := by decide +kernel
theorem dX5_copyFrom_16 : decode cX5_copyFrom 16 = .ok (.aload_n 1, 1) := by decide +kernel
theorem dX5_copyFrom_17 : decode cX5_copyFrom 17 = .ok (.getfield 15, 3) := by decide +kernel
theorem dX5_copyFrom_20 : decode cX5_copyFrom 20 = .ok (.putfield 15, 3) := by decide +kernel
theorem dX5_copyFrom_23 : decode cX5_copyFrom 23 = .ok (.return_, 1) := by decide +kernel
theorem dX6_init_0 : decode cX6_init 0 = .ok (.aload_n 0, 1) := by decide +kernel
theorem dX6_init_1 : decode cX6_init 1 = .ok (.invokespecial 3, 3) := by decide +kernel
theorem dX6_init_4 : decode cX6_init 4 = .ok (.aload_n 0, 1) := by decide +kernel
theorem dX6_init_5 : decode cX6_init 5 = .ok (.bipush 6, 2) := by decide +kernel
theorem dX6_init_7 : decode cX6_init 7 = .ok (.anewarray 9, 3) := by decide +kernel
theorem dX6_init_10 : decode cX6_init 10 = .ok (.putfield 11, 3) := by decide +kernel
theorem dX6_init_13 : decode cX6_init 13 = .ok (.aload_n 0, 1) := by decide +kernel
theorem dX6_init_14 : decode cX6_init 14 = .ok (.bipush 6, 2) := by decide +kernel
theorem dX6_init_16 : decode cX6_init 16 = .ok (.anewarray 9, 3) := by decide +kernel
theorem dX6_init_19 : decode cX6_init 19 = .ok (.putfield 17, 3) := by decide +kernel
theorem dX6_init_22 : decode cX6_init 22 = .ok (.aload_n 0, 1) := by decide +kernel
theorem dX6_init_23 : decode cX6_init 23 = .ok (.bipush 6, 2) := by decide +kernel
theorem dX6_init_25 : decode cX6_init 25 = .ok (.newarray .int, 2) := by decide +kernel
theorem dX6_init_27 : decode cX6_init 27 = .ok (.putfield 20, 3) := by decide +kernel
theorem dX6_init_30 : decode cX6_init 30 = .ok (.aload_n 0, 1) := by decide +kernel
theorem dX6_init_31 : decode cX6_init 31 = .ok (.iconst (-1), 1) := by decide +kernel
theorem dX6_init_32 : decode cX6_init 32 = .ok (.putfield 24, 3) := by decide +kernel
theorem dX6_init_35 : decode cX6_init 35 = .ok (.aload_n 0, 1) := by decide +kernel
theorem dX6_init_36 : decode cX6_init 36 = .ok (.aload_n 1, 1) := by decide +kernel
theorem dX6_init_37 : decode cX6_init 37 = .ok (.putfield 28, 3) := by decide +kernel
theorem dX6_init_40 : decode cX6_init 40 = .ok (.aload_n 0, 1) := by decide +kernel
theorem dX6_init_41 : decode cX6_init 41 = .ok (.aload_n 2, 1) := by decide +kernel
theorem dX6_init_42 : decode cX6_init 42 = .ok (.putfield 32, 3) := by decide +kernel
theorem dX6_init_45 : decode cX6_init 45 = .ok (.aload_n 0, 1) := by decide +kernel
theorem dX6_init_46 : decode cX6_init 46 = .ok (.new 36, 3) := by decide +kernel
theorem dX6_init_49 : decode cX6_init 49 = .ok (.dup, 1) := by decide +kernel
theorem dX6_init_50 : decode cX6_init 50 = .ok (.aload_n 2, 1) := by decide +kernel
theorem dX6_init_51 : decode cX6_init 51 = .ok (.invokespecial 38, 3) := by decide +kernel
theorem dX6_init_54 : decode cX6_init 54 = .ok (.putfield 41, 3) := by decide +kernel
theorem dX6_init_57 : decode cX6_init 57 = .ok (.aload_n 0, 1) := by decide +kernel
theorem dX6_init_58 : decode cX6_init 58 = .ok (.new 45, 3) := by decide +kernel
theorem dX6_init_61 : decode cX6_init 61 = .ok (.dup, 1) := by decide +kernel
theorem dX6_init_62 : decode cX6_init 62 = .ok (.aload_n 2, 1) := by decide +kernel
theorem dX6_init_63 : decode cX6_init 63 = .ok (.invokespecial 47, 3) := by decide +kernel
theorem dX6_init_66 : decode cX6_init 66 = .ok (.putfield 48, 3) := by decide +kernel
theorem dX6_init_69 : decode cX6_init 69 = .ok (.iconst 0, 1) := by decide +kernel
theorem dX6_init_70 : decode cX6_init 70 = .ok (.istore_n 3, 1) := by decide +kernel
theorem dX6_init_71 : decode cX6_init 71 = .ok (.iload_n 3, 1) := by decide +kernel
theorem dX6_init_72 : decode cX6_init 72 = .ok (.bipush 6, 2) := by decide +kernel
theorem dX6_init_74 : decode cX6_init 74 = .ok (.if_icmp .ge 35, 3) := by decide +kernel
theorem dX6_init_77 : decode cX6_init 77 = .ok (.aload_n 0, 1) := by decide +kernel
theorem dX6_init_78 : decode cX6_init 78 = .ok (.getfield 11, 3) := by decide +kernel
theorem dX6_init_81 : decode cX6_init 81 = .ok (.iload_n 3, 1) := by decide +kernel
theorem dX6_init_82 : decode cX6_init 82 = .ok (.new 9, 3) := by decide +kernel
theorem dX6_init_85 : decode cX6_init 85 = .ok (.dup, 1) := by decide +kernel
theorem dX6_init_86 : decode cX6_init 86 = .ok (.invokespecial 52, 3) := by decide +kernel
theorem dX6_init_89 : decode cX6_init 89 = .ok (.aastore, 1) := by decide +kernel
theorem dX6_init_90 : decode cX6_init 90 = .ok (.aload_n 0, 1) := by decide +kernel
theorem dX6_init_91 : decode cX6_init 91 = .ok (.getfield 17, 3) := by decide +kernel
theorem dX6_init_94 : decode cX6_init 94 = .ok (.iload_n 3, 1) := by decide +kernel
theorem dX6_init_95 : decode cX6_init 95 = .ok (.new 9, 3) := by decide +kernel
theorem dX6_init_98 : decode cX6_init 98 = .ok (.dup, 1) := by decide +kernel
theorem dX6_init_99 : decode cX6_init 99 = .ok (.invokespecial 52, 3) := by decide +kernel
theorem dX6_init_102 : decode cX6_init 102 = .ok (.aastore, 1) := by decide +kernel
theorem dX6_init_103 : decode cX6_init 103 = .ok (.iinc 3 1, 3) := by decide +kernel
theorem dX6_init_106 : decode cX6_init 106 = .ok (.goto (-35), 3) := by decide +kernel
theorem dX6_init_109 : decode cX6_init 109 = .ok (.return_, 1) := by decide +kernel
theorem dX6_discard_0 : decode cX6_discard 0 = .ok (.aload_n 0, 1) := by decide +kernel
theorem dX6_discard_1 : decode cX6_discard 1 = .ok (.iconst 0, 1) := by decide +kernel
theorem dX6_discard_2 : decode cX6_discard 2 = .ok (.putfield 53, 3) := by decide +kernel
theorem dX6_discard_5 : decode cX6_discard 5 = .ok (.aload_n 0, 1) := by decide +kernel
theorem dX6_discard_6 : decode cX6_discard 6 = .ok (.iconst (-1), 1) := by decide +kernel
theorem dX6_discard_7 : decode cX6_discard 7 = .ok (.putfield 24, 3) := by decide +kernel
theorem dX6_discard_10 : decode cX6_discard 10 = .ok (.return_, 1) := by decide +kernel
theorem dX6_make_0 : decode cX6_make 0 = .ok (.aload_n 0, 1) := by decide +kernel
theorem dX6_make_1 : decode cX6_make 1 = .ok (.invokevirtual 57, 3) := by decide +kernel
theorem dX6_make_4 : decode cX6_make 4 = .ok (.aload_n 0, 1) := by decide +kernel
theorem dX6_make_5 : decode cX6_make 5 = .ok (.iconst 0, 1) := by decide +kernel
theorem dX6_make_6 : decode cX6_make 6 = .ok (.putfield 60, 3) := by decide +kernel
theorem dX6_make_9 : decode cX6_make 9 = .ok (.aload_n 0, 1) := by decide +kernel
theorem dX6_make_10 : decode cX6_make 10 = .ok (.aload_n 1, 1) := by decide +kernel
theorem dX6_make_11 : decode cX6_make 11 = .ok (.getfield 63, 3) := by decide +kernel
theorem dX6_make_14 : decode cX6_make 14 = .ok (.bipush 6, 2) := by decide +kernel
theorem dX6_make_16 : decode cX6_make 16 = .ok (.invokestatic 68, 3) := by decide +kernel
theorem dX6_make_19 : decode cX6_make 19 = .ok (.putfield 74, 3) := by decide +kernel
theorem dX6_make_22 : decode cX6_make 22 = .ok (.aload_n 0, 1) := by decide +kernel
theorem dX6_make_23 : decode cX6_make 23 = .ok (.aload_n 1, 1) := by decide +kernel
theorem dX6_make_24 : decode cX6_make 24 = .ok (.invokevirtual 75, 3) := by decide +kernel
theorem dX6_make_27 : decode cX6_make 27 = .ok (.aload_n 0, 1) := by decide +kernel
theorem dX6_make_28 : decode cX6_make 28 = .ok (.getfield 48, 3) := by decide +kernel
theorem dX6_make_31 : decode cX6_make 31 = .ok (.invokevirtual 79, 3) := by decide +kernel
theorem dX6_make_34 : decode cX6_make 34 = .ok (.iconst 0, 1) := by decide +kernel
theorem dX6_make_35 : decode cX6_make 35 = .ok (.istore_n 2, 1) := by decide +kernel
theorem dX6_make_36 : decode cX6_make 36 = .ok (.iconst 0, 1) := by decide +kernel
theorem dX6_make_37 : decode cX6_make 37 = .ok (.istore_n 3, 1) := by decide +kernel
theorem dX6_make_38 : decode cX6_make 38 = .ok (.iload_n 3, 1) := by decide +kernel
theorem dX6_make_39 : decode cX6_make 39 = .ok (.aload_n 0, 1) := by decide +kernel
theorem dX6_make_40 : decode cX6_make 40 = .ok (.getfield 74, 3) := by decide +kernel
theorem dX6_make_43 : decode cX6_make 43 = .ok (.if_icmp .ge 123, 3) := by decide +kernel
theorem dX6_make_46 : decode cX6_make 46 = .ok (.iload_n 3, 1) := by decide +kernel
theorem dX6_make_47 : decode cX6_make 47 = .ok (.bipush 6, 2) := by decide +kernel
theorem dX6_make_49 : decode cX6_make 49 = .ok (.if_icmp .ge 117, 3) := by decide +kernel
theorem dX6_make_52 : decode cX6_make 52 = .ok (.aload_n 0, 1) := by decide +kernel
theorem dX6_make_53 : decode cX6_make 53 = .ok (.getfield 20, 3) := by decide +kernel
theorem dX6_make_56 : decode cX6_make 56 = .ok (.iload_n 3, 1) := by decide +kernel
theorem dX6_make_57 : decode cX6_make 57 = .ok (.iaload, 1) := by decide +kernel
theorem dX6_make_58 : decode cX6_make 58 = .ok (.istore 4, 2) := by decide +kernel
theorem dX6_make_60 : decode cX6_make 60 = .ok (.aload_n 0, 1) := by decide +kernel
theorem dX6_make_61 : decode cX6_make 61 = .ok (.getfield 28, 3) := by decide +kernel
theorem dX6_make_64 : decode cX6_make 64 = .ok (.getfield 82, 3) := by decide +kernel
theorem dX6_make_67 : decode cX6_make 67 = .ok (.iload 4, 2) := by decide +kernel
theorem dX6_make_69 : decode cX6_make 69 = .ok (.invokevirtual 88, 3) := by decide +kernel
theorem dX6_make_72 : decode cX6_make 72 = .ok (.istore 5, 2) := by decide +kernel
theorem dX6_make_74 : decode cX6_make 74 = .ok (.aload_n 0, 1) := by decide +kernel
theorem dX6_make_75 : decode cX6_make 75 = .ok (.getfield 48, 3) := by decide +kernel
theorem dX6_make_78 : decode cX6_make 78 = .ok (.iload 5, 2) := by decide +kernel
theorem dX6_make_80 : decode cX6_make 80 = .ok (.aload_n 0, 1) := by decide +kernel
theorem dX6_make_81 : decode cX6_make 81 = .ok (.iload 4, 2) := by decide +kernel
theorem dX6_make_83 : decode cX6_make 83 = .ok (.invokevirtual 94, 3) := by decide +kernel
theorem dX6_make_86 : decode cX6_make 86 = .ok (.invokevirtual 97, 3) := by decide +kernel
theorem dX6_make_89 : decode cX6_make 89 = .ok (.istore 6, 2) := by decide +kernel
theorem dX6_make_91 : decode cX6_make 91 = .ok (.iload 6, 2) := by decide +kernel
theorem dX6_make_93 : decode cX6_make 93 = .ok (.iconst (-1), 1) := by decide +kernel
theorem dX6_make_94 : decode cX6_make 94 = .ok (.if_icmp .ne 12, 3) := by decide +kernel
theorem dX6_make_97 : decode cX6_make 97 = .ok (.aload_n 0, 1) := by decide +kernel
theorem dX6_make_98 : decode cX6_make 98 = .ok (.iload 4, 2) := by decide +kernel
theorem dX6_make_100 : decode cX6_make 100 = .ok (.putfield 24, 3) := by decide +kernel
theorem dX6_make_103 : decode cX6_make 103 = .ok (.bipush (-7), 2) := by decide +kernel
theorem dX6_make_105 : decode cX6_make 105 = .ok (.ireturn, 1) := by decide +kernel
theorem dX6_make_106 : decode cX6_make 106 = .ok (.aload_n 0, 1) := by decide +kernel
theorem dX6_make_107 : decode cX6_make 107 = .ok (.getfield 48, 3) := by decide +kernel
theorem dX6_make_110 : decode cX6_make 110 = .ok (.iload 6, 2) := by decide +kernel
theorem dX6_make_112 : decode cX6_make 112 = .ok (.aload_n 0, 1) := by decide +kernel
theorem dX6_make_113 : decode cX6_make 113 = .ok (.iload 4, 2) := by decide +kernel
theorem dX6_make_115 : decode cX6_make 115 = .ok (.invokevirtual 94, 3) := by decide +kernel
theorem dX6_make_118 : decode cX6_make 118 = .ok (.invokevirtual 100, 3) := by decide +kernel
theorem dX6_make_121 : decode cX6_make 121 = .ok (.aload_n 0, 1) := by decide +kernel
theorem dX6_make_122 : decode cX6_make 122 = .ok (.getfield 48, 3) := by decide +kernel
theorem dX6_make_125 : decode cX6_make 125 = .ok (.aload_n 0, 1) := by decide +kernel
theorem dX6_make_126 : decode cX6_make 126 = .ok (.iload 4, 2) := by decide +kernel
theorem dX6_make_128 : decode cX6_make 128 = .ok (.invokevirtual 104, 3) := by decide +kernel
theorem dX6_make_131 : decode cX6_make 131 = .ok (.iload 5, 2) := by decide +kernel
theorem dX6_make_133 : decode cX6_make 133 = .ok (.iload 6, 2) := by decide +kernel
theorem dX6_make_135 : decode cX6_make 135 = .ok (.invokevirtual 108, 3) := by decide +kernel
theorem dX6_make_138 : decode cX6_make 138 = .ok (.aload_n 0, 1) := by decide +kernel
theorem dX6_make_139 : decode cX6_make 139 = .ok (.getfield 48, 3) := by decide +kernel
theorem dX6_make_142 : decode cX6_make 142 = .ok (.aload_n 0, 1) := by decide +kernel
theorem dX6_make_143 : decode cX6_make 143 = .ok (.iload 4, 2) := by decide +kernel
theorem dX6_make_145 : decode cX6_make 145 = .ok (.invokevirtual 104, 3) := by decide +kernel
theorem dX6_make_148 : decode cX6_make 148 = .ok (.iload 4, 2) := by decide +kernel
theorem dX6_make_150 : decode cX6_make 150 = .ok (.invokevirtual 112, 3) := by decide +kernel
theorem dX6_make_153 : decode cX6_make 153 = .ok (.iload_n 2, 1) := by decide +kernel
theorem dX6_make_154 : decode cX6_make 154 = .ok (.iload 6, 2) := by decide +kernel
theorem dX6_make_156 : decode cX6_make 156 = .ok (.invokestatic 116, 3) := by decide +kernel
theorem dX6_make_159 : decode cX6_make 159 = .ok (.istore_n 2, 1) := by decide +kernel
theorem dX6_make_160 : decode cX6_make 160 = .ok (.iinc 3 1, 3) := by decide +kernel
theorem dX6_make_163 : decode cX6_make 163 = .ok (.goto (-125), 3) := by decide +kernel
theorem dX6_make_166 : decode cX6_make 166 = .ok (.aload_n 0, 1) := by decide +kernel
theorem dX6_make_167 : decode cX6_make 167 = .ok (.iconst 1, 1) := by decide +kernel
theorem dX6_make_168 : decode cX6_make 168 = .ok (.putfield 53, 3) := by decide +kernel
theorem dX6_make_171 : decode cX6_make 171 = .ok (.iload_n 2, 1) := by decide +kernel
theorem dX6_make_172 : decode cX6_make 172 = .ok (.ireturn, 1) := by decide +kernel
theorem dX6_cellOfDrone_0 : decode cX6_cellOfDrone 0 = .ok (.aload_n 0, 1) := by decide +kernel
theorem dX6_cellOfDrone_1 : decode cX6_cellOfDrone 1 = .ok (.iload_n 1, 1) := by decide +kernel
theorem dX6_cellOfDrone_2 : decode cX6_cellOfDrone 2 = .ok (.invokevirtual 104, 3) := by decide +kernel
theorem dX6_cellOfDrone_5 : decode cX6_cellOfDrone 5 = .ok (.aload_n 0, 1) := by decide +kernel
theorem dX6_cellOfDrone_6 : decode cX6_cellOfDrone 6 = .ok (.getfield 60, 3) := by decide +kernel
theorem dX6_cellOfDrone_9 : decode cX6_cellOfDrone 9 = .ok (.iload_n 2, 1) := by decide +kernel
theorem dX6_cellOfDrone_10 : decode cX6_cellOfDrone 10 = .ok (.iadd, 1) := by decide +kernel
theorem dX6_cellOfDrone_11 : decode cX6_cellOfDrone 11 = .ok (.invokevirtual 119, 3) := by decide +kernel
theorem dX6_cellOfDrone_14 : decode cX6_cellOfDrone 14 = .ok (.ireturn, 1) := by decide +kernel
theorem dX6_actionOfDrone_0 : decode cX6_actionOfDrone 0 = .ok (.aload_n 0, 1) := by decide +kernel
theorem dX6_actionOfDrone_1 : decode cX6_actionOfDrone 1 = .ok (.iload_n 1, 1) := by decide +kernel
theorem dX6_actionOfDrone_2 : decode cX6_actionOfDrone 2 = .ok (.invokevirtual 104, 3) := by decide +kernel
theorem dX6_actionOfDrone_5 : decode cX6_actionOfDrone 5 = .ok (.aload_n 0, 1) := by decide +kernel
theorem dX6_actionOfDrone_6 : decode cX6_actionOfDrone 6 = .ok (.getfield 60, 3) := by decide +kernel
theorem dX6_actionOfDrone_9 : decode cX6_actionOfDrone 9 = .ok (.iload_n 2, 1) := by decide +kernel
theorem dX6_actionOfDrone_10 : decode cX6_actionOfDrone 10 = .ok (.iadd, 1) := by decide +kernel
theorem dX6_actionOfDrone_11 : decode cX6_actionOfDrone 11 = .ok (.invokevirtual 120, 3) := by decide +kernel
theorem dX6_actionOfDrone_14 : decode cX6_actionOfDrone 14 = .ok (.ireturn, 1) := by decide +kernel
theorem dX6_positionOf_0 : decode cX6_positionOf 0 = .ok (.aload_n 0, 1) := by decide +kernel
theorem dX6_positionOf_1 : decode cX6_positionOf 1 = .ok (.iload_n 1, 1) := by decide +kernel
theorem dX6_positionOf_2 : decode cX6_positionOf 2 = .ok (.invokevirtual 104, 3) := by decide +kernel
theorem dX6_positionOf_5 : decode cX6_positionOf 5 = .ok (.getfield 123, 3) := by decide +kernel
theorem dX6_positionOf_8 : decode cX6_positionOf 8 = .ok (.ireturn, 1) := by decide +kernel
theorem dX6_slotOf_0 : decode cX6_slotOf 0 = .ok (.aload_n 0, 1) := by decide +kernel
theorem dX6_slotOf_1 : decode cX6_slotOf 1 = .ok (.iload_n 1, 1) := by decide +kernel
theorem dX6_slotOf_2 : decode cX6_slotOf 2 = .ok (.invokevirtual 104, 3) := by decide +kernel
theorem dX6_slotOf_5 : decode cX6_slotOf 5 = .ok (.getfield 126, 3) := by decide +kernel
theorem dX6_slotOf_8 : decode cX6_slotOf 8 = .ok (.ireturn, 1) := by decide +kernel
theorem dX6_ticksLeft_0 : decode cX6_ticksLeft 0 = .ok (.iconst 0, 1) := by decide +kernel
theorem dX6_ticksLeft_1 : decode cX6_ticksLeft 1 = .ok (.aload_n 0, 1) := by decide +kernel
theorem dX6_ticksLeft_2 : decode cX6_ticksLeft 2 = .ok (.iload_n 1, 1) := by decide +kernel
theorem dX6_ticksLeft_3 : decode cX6_ticksLeft 3 = .ok (.invokevirtual 104, 3) := by decide +kernel
theorem dX6_ticksLeft_6 : decode cX6_ticksLeft 6 = .ok (.getfield 129, 3) := by decide +kernel
theorem dX6_ticksLeft_9 : decode cX6_ticksLeft 9 = .ok (.aload_n 0, 1) := by decide +kernel
theorem dX6_ticksLeft_10 : decode cX6_ticksLeft 10 = .ok (.getfield 60, 3) := by decide +kernel
theorem dX6_ticksLeft_13 : decode cX6_ticksLeft 13 = .ok (.isub, 1) := by decide +kernel
theorem dX6_ticksLeft_14 : decode cX6_ticksLeft 14 = .ok (.invokestatic 116, 3) := by decide +kernel
theorem dX6_ticksLeft_17 : decode cX6_ticksLeft 17 = .ok (.ireturn, 1) := by decide +kernel
theorem dX6_waitsLeft_0 : decode cX6_waitsLeft 0 = .ok (.aload_n 0, 1) := by decide +kernel
theorem dX6_waitsLeft_1 : decode cX6_waitsLeft 1 = .ok (.iload_n 1, 1) := by decide +kernel
theorem dX6_waitsLeft_2 : decode cX6_waitsLeft 2 = .ok (.invokevirtual 104, 3) := by decide +kernel
theorem dX6_waitsLeft_5 : decode cX6_waitsLeft 5 = .ok (.astore_n 2, 1) := by decide +kernel
theorem dX6_waitsLeft_6 : decode cX6_waitsLeft 6 = .ok (.iconst 0, 1) := by decide +kernel
theorem dX6_waitsLeft_7 : decode cX6_waitsLeft 7 = .ok (.istore_n 3, 1) := by decide +kernel
theorem dX6_waitsLeft_8 : decode cX6_waitsLeft 8 = .ok (.aload_n 0, 1) := by decide +kernel
theorem dX6_waitsLeft_9 : decode cX6_waitsLeft 9 = .ok (.getfield 60, 3) := by decide +kernel
theorem dX6_waitsLeft_12 : decode cX6_waitsLeft 12 = .ok (.istore 4, 2) := by decide +kernel
theorem dX6_waitsLeft_14 : decode cX6_waitsLeft 14 = .ok (.iload 4, 2) := by decide +kernel
theorem dX6_waitsLeft_16 : decode cX6_waitsLeft 16 = .ok (.aload_n 2, 1) := by decide +kernel
theorem dX6_waitsLeft_17 : decode cX6_waitsLeft 17 = .ok (.getfield 129, 3) := by decide +kernel
theorem dX6_waitsLeft_20 : decode cX6_waitsLeft 20 = .ok (.if_icmp .ge 21, 3) := by decide +kernel
theorem dX6_waitsLeft_23 : decode cX6_waitsLeft 23 = .ok (.aload_n 2, 1) := by decide +kernel
theorem dX6_waitsLeft_24 : decode cX6_waitsLeft 24 = .ok (.iload 4, 2) := by decide +kernel
theorem dX6_waitsLeft_26 : decode cX6_waitsLeft 26 = .ok (.invokevirtual 120, 3) := by decide +kernel
theorem dX6_waitsLeft_29 : decode cX6_waitsLeft 29 = .ok (.ifCond .ne 6, 3) := by decide +kernel
theorem dX6_waitsLeft_32 : decode cX6_waitsLeft 32 = .ok (.iinc 3 1, 3) := by decide +kernel
theorem dX6_waitsLeft_35 : decode cX6_waitsLeft 35 = .ok (.iinc 4 1, 3) := by decide +kernel
theorem dX6_waitsLeft_38 : decode cX6_waitsLeft 38 = .ok (.goto (-24), 3) := by decide +kernel
theorem dX6_waitsLeft_41 : decode cX6_waitsLeft 41 = .ok (.iload_n 3, 1) := by decide +kernel
theorem dX6_waitsLeft_42 : decode cX6_waitsLeft 42 = .ok (.ireturn, 1) := by decide +kernel
theorem dX6_timeWithoutOthers_0 : decode cX6_timeWithoutOthers 0 = .ok (.aload_n 0, 1) := by decide +kernel
theorem dX6_timeWithoutOthers_1 : decode cX6_timeWithoutOthers 1 = .ok (.getfield 41, 3) := by decide +kernel
theorem dX6_timeWithoutOthers_4 : decode cX6_timeWithoutOthers 4 = .ok (.aload_n 0, 1) := by decide +kernel
theorem dX6_timeWithoutOthers_5 : decode cX6_timeWithoutOthers 5 = .ok (.iload_n 1, 1) := by decide +kernel
theorem dX6_timeWithoutOthers_6 : decode cX6_timeWithoutOthers 6 = .ok (.invokevirtual 94, 3) := by decide +kernel
theorem dX6_timeWithoutOthers_9 : decode cX6_timeWithoutOthers 9 = .ok (.invokevirtual 132, 3) := by decide +kernel
theorem dX6_timeWithoutOthers_12 : decode cX6_timeWithoutOthers 12 = .ok (.aload_n 0, 1) := by decide +kernel
theorem dX6_timeWithoutOthers_13 : decode cX6_timeWithoutOthers 13 = .ok (.getfield 41, 3) := by decide +kernel
theorem dX6_timeWithoutOthers_16 : decode cX6_timeWithoutOthers 16 = .ok (.aload_n 0, 1) := by decide +kernel
theorem dX6_timeWithoutOthers_17 : decode cX6_timeWithoutOthers 17 = .ok (.getfield 28, 3) := by decide +kernel
theorem dX6_timeWithoutOthers_20 : decode cX6_timeWithoutOthers 20 = .ok (.getfield 82, 3) := by decide +kernel
theorem dX6_timeWithoutOthers_23 : decode cX6_timeWithoutOthers 23 = .ok (.iload_n 1, 1) := by decide +kernel
theorem dX6_timeWithoutOthers_24 : decode cX6_timeWithoutOthers 24 = .ok (.invokevirtual 88, 3) := by decide +kernel
theorem dX6_timeWithoutOthers_27 : decode cX6_timeWithoutOthers 27 = .ok (.invokevirtual 136, 3) := by decide +kernel
theorem dX6_timeWithoutOthers_30 : decode cX6_timeWithoutOthers 30 = .ok (.ireturn, 1) := by decide +kernel
theorem dX6_hinderer_0 : decode cX6_hinderer 0 = .ok (.aload_n 0, 1) := by decide +kernel
theorem dX6_hinderer_1 : decode cX6_hinderer 1 = .ok (.iload_n 1, 1) := by decide +kernel
theorem dX6_hinderer_2 : decode cX6_hinderer 2 = .ok (.invokevirtual 104, 3) := by decide +kernel
theorem dX6_hinderer_5 : decode cX6_hinderer 5 = .ok (.astore_n 3, 1) := by decide +kernel
theorem dX6_hinderer_6 : decode cX6_hinderer 6 = .ok (.aload_n 0, 1) := by decide +kernel
theorem dX6_hinderer_7 : decode cX6_hinderer 7 = .ok (.getfield 60, 3) := by decide +kernel
theorem dX6_hinderer_10 : decode cX6_hinderer 10 = .ok (.iload_n 2, 1) := by decide +kernel
theorem dX6_hinderer_11 : decode cX6_hinderer 11 = .ok (.iadd, 1) := by decide +kernel
theorem dX6_hinderer_12 : decode cX6_hinderer 12 = .ok (.istore 4, 2) := by decide +kernel
theorem dX6_hinderer_14 : decode cX6_hinderer 14 = .ok (.iload 4, 2) := by decide +kernel
theorem dX6_hinderer_16 : decode cX6_hinderer 16 = .ok (.aload_n 3, 1) := by decide +kernel
theorem dX6_hinderer_17 : decode cX6_hinderer 17 = .ok (.getfield 129, 3) := by decide +kernel
theorem dX6_hinderer_20 : decode cX6_hinderer 20 = .ok (.if_icmp .ge 12, 3) := by decide +kernel
theorem dX6_hinderer_23 : decode cX6_hinderer 23 = .ok (.aload_n 3, 1) := by decide +kernel
theorem dX6_hinderer_24 : decode cX6_hinderer 24 = .ok (.iload 4, 2) := by decide +kernel
theorem dX6_hinderer_26 : decode cX6_hinderer 26 = .ok (.invokevirtual 120, 3) := by decide +kernel
theorem dX6_hinderer_29 : decode cX6_hinderer 29 = .ok (.ifCond .eq 5, 3) := by decide +kernel
theorem dX6_hinderer_32 : decode cX6_hinderer 32 = .ok (.iconst (-1), 1) := by decide +kernel
theorem dX6_hinderer_33 : decode cX6_hinderer 33 = .ok (.ireturn, 1) := by decide +kernel
theorem dX6_hinderer_34 : decode cX6_hinderer 34 = .ok (.aload_n 0, 1) := by decide +kernel
theorem dX6_hinderer_35 : decode cX6_hinderer 35 = .ok (.getfield 41, 3) := by decide +kernel
theorem dX6_hinderer_38 : decode cX6_hinderer 38 = .ok (.aload_n 0, 1) := by decide +kernel
theorem dX6_hinderer_39 : decode cX6_hinderer 39 = .ok (.iload_n 1, 1) := by decide +kernel
theorem dX6_hinderer_40 : decode cX6_hinderer 40 = .ok (.invokevirtual 94, 3) := by decide +kernel
theorem dX6_hinderer_43 : decode cX6_hinderer 43 = .ok (.invokevirtual 132, 3) := by decide +kernel
theorem dX6_hinderer_46 : decode cX6_hinderer 46 = .ok (.aload_n 3, 1) := by decide +kernel
theorem dX6_hinderer_47 : decode cX6_hinderer 47 = .ok (.iload 4, 2) := by decide +kernel
theorem dX6_hinderer_49 : decode cX6_hinderer 49 = .ok (.invokevirtual 119, 3) := by decide +kernel
theorem dX6_hinderer_52 : decode cX6_hinderer 52 = .ok (.istore 5, 2) := by decide +kernel
theorem dX6_hinderer_54 : decode cX6_hinderer 54 = .ok (.aload_n 0, 1) := by decide +kernel
theorem dX6_hinderer_55 : decode cX6_hinderer 55 = .ok (.getfield 41, 3) := by decide +kernel
theorem dX6_hinderer_58 : decode cX6_hinderer 58 = .ok (.iload 5, 2) := by decide +kernel
theorem dX6_hinderer_60 : decode cX6_hinderer 60 = .ok (.invokevirtual 139, 3) := by decide +kernel
theorem dX6_hinderer_63 : decode cX6_hinderer 63 = .ok (.istore 6, 2) := by decide +kernel
theorem dX6_hinderer_65 : decode cX6_hinderer 65 = .ok (.iload 6, 2) := by decide +kernel
theorem dX6_hinderer_67 : decode cX6_hinderer 67 = .ok (.ifCond .ne 5, 3) := by decide +kernel
theorem dX6_hinderer_70 : decode cX6_hinderer 70 = .ok (.iconst (-1), 1) := by decide +kernel
theorem dX6_hinderer_71 : decode cX6_hinderer 71 = .ok (.ireturn, 1) := by decide +kernel
theorem dX6_hinderer_72 : decode cX6_hinderer 72 = .ok (.iconst 0, 1) := by decide +kernel
theorem dX6_hinderer_73 : decode cX6_hinderer 73 = .ok (.istore 7, 2) := by decide +kernel
theorem dX6_hinderer_75 : decode cX6_hinderer 75 = .ok (.iload 7, 2) := by decide +kernel
theorem dX6_hinderer_77 : decode cX6_hinderer 77 = .ok (.aload_n 0, 1) := by decide +kernel
theorem dX6_hinderer_78 : decode cX6_hinderer 78 = .ok (.getfield 74, 3) := by decide +kernel
theorem dX6_hinderer_81 : decode cX6_hinderer 81 = .ok (.if_icmp .ge 68, 3) := by decide +kernel
theorem dX6_hinderer_84 : decode cX6_hinderer 84 = .ok (.iload 7, 2) := by decide +kernel
theorem dX6_hinderer_86 : decode cX6_hinderer 86 = .ok (.bipush 6, 2) := by decide +kernel
theorem dX6_hinderer_88 : decode cX6_hinderer 88 = .ok (.if_icmp .ge 61, 3) := by decide +kernel
theorem dX6_hinderer_91 : decode cX6_hinderer 91 = .ok (.aload_n 0, 1) := by decide +kernel
theorem dX6_hinderer_92 : decode cX6_hinderer 92 = .ok (.getfield 11, 3) := by decide +kernel
theorem dX6_hinderer_95 : decode cX6_hinderer 95 = .ok (.iload 7, 2) := by decide +kernel
theorem dX6_hinderer_97 : decode cX6_hinderer 97 = .ok (.aaload, 1) := by decide +kernel
theorem dX6_hinderer_98 : decode cX6_hinderer 98 = .ok (.getfield 123, 3) := by decide +kernel
theorem dX6_hinderer_101 : decode cX6_hinderer 101 = .ok (.aload_n 3, 1) := by decide +kernel
theorem dX6_hinderer_102 : decode cX6_hinderer 102 = .ok (.getfield 123, 3) := by decide +kernel
theorem dX6_hinderer_105 : decode cX6_hinderer 105 = .ok (.if_icmp .ge 7, 3) := by decide +kernel
theorem dX6_hinderer_108 : decode cX6_hinderer 108 = .ok (.iconst 1, 1) := by decide +kernel
theorem dX6_hinderer_109 : decode cX6_hinderer 109 = .ok (.goto 4, 3) := by decide +kernel
theorem dX6_hinderer_112 : decode cX6_hinderer 112 = .ok (.iconst 0, 1) := by decide +kernel
theorem dX6_hinderer_113 : decode cX6_hinderer 113 = .ok (.istore 8, 2) := by decide +kernel
theorem dX6_hinderer_115 : decode cX6_hinderer 115 = .ok (.iload 8, 2) := by decide +kernel
theorem dX6_hinderer_117 : decode cX6_hinderer 117 = .ok (.ifCond .eq 26, 3) := by decide +kernel
theorem dX6_hinderer_120 : decode cX6_hinderer 120 = .ok (.aload_n 0, 1) := by decide +kernel
theorem dX6_hinderer_121 : decode cX6_hinderer 121 = .ok (.aload_n 0, 1) := by decide +kernel
theorem dX6_hinderer_122 : decode cX6_hinderer 122 = .ok (.getfield 11, 3) := by decide +kernel
theorem dX6_hinderer_125 : decode cX6_hinderer 125 = .ok (.iload 7, 2) := by decide +kernel
theorem dX6_hinderer_127 : decode cX6_hinderer 127 = .ok (.aaload, 1) := by decide +kernel
theorem dX6_hinderer_128 : decode cX6_hinderer 128 = .ok (.iload 4, 2) := by decide +kernel
theorem dX6_hinderer_130 : decode cX6_hinderer 130 = .ok (.iload 5, 2) := by decide +kernel
theorem dX6_hinderer_132 : decode cX6_hinderer 132 = .ok (.iload 6, 2) := by decide +kernel
theorem dX6_hinderer_134 : decode cX6_hinderer 134 = .ok (.invokevirtual 142, 3) := by decide +kernel
theorem dX6_hinderer_137 : decode cX6_hinderer 137 = .ok (.ifCond .eq 6, 3) := by decide +kernel
theorem dX6_hinderer_140 : decode cX6_hinderer 140 = .ok (.iload 7, 2) := by decide +kernel
theorem dX6_hinderer_142 : decode cX6_hinderer 142 = .ok (.ireturn, 1) := by decide +kernel
theorem dX6_hinderer_143 : decode cX6_hinderer 143 = .ok (.iinc 7 1, 3) := by decide +kernel
theorem dX6_hinderer_146 : decode cX6_hinderer 146 = .ok (.goto (-71), 3) := by decide +kernel
theorem dX6_hinderer_149 : decode cX6_hinderer 149 = .ok (.iconst (-1), 1) := by decide +kernel
theorem dX6_hinderer_150 : decode cX6_hinderer 150 = .ok (.ireturn, 1) := by decide +kernel
theorem dX6_pairsInConflict_0 : decode cX6_pairsInConflict 0 = .ok (.iconst 0, 1) := by decide +kernel
theorem dX6_pairsInConflict_1 : decode cX6_pairsInConflict 1 = .ok (.istore_n 1, 1) := by decide +kernel
theorem dX6_pairsInConflict_2 : decode cX6_pairsInConflict 2 = .ok (.iconst 0, 1) := by decide +kernel
theorem dX6_pairsInConflict_3 : decode cX6_pairsInConflict 3 = .ok (.istore_n 2, 1) := by decide +kernel
theorem dX6_pairsInConflict_4 : decode cX6_pairsInConflict 4 = .ok (.iload_n 2, 1) := by decide +kernel
theorem dX6_pairsInConflict_5 : decode cX6_pairsInConflict 5 = .ok (.aload_n 0, 1) := by decide +kernel
theorem dX6_pairsInConflict_6 : decode cX6_pairsInConflict 6 = .ok (.getfield 74, 3) := by decide +kernel
theorem dX6_pairsInConflict_9 : decode cX6_pairsInConflict 9 = .ok (.if_icmp .ge 54, 3) := by decide +kernel
theorem dX6_pairsInConflict_12 : decode cX6_pairsInConflict 12 = .ok (.iload_n 2, 1) := by decide +kernel
theorem dX6_pairsInConflict_13 : decode cX6_pairsInConflict 13 = .ok (.bipush 6, 2) := by decide +kernel
theorem dX6_pairsInConflict_15 : decode cX6_pairsInConflict 15 = .ok (.if_icmp .ge 48, 3) := by decide +kernel
theorem dX6_pairsInConflict_18 : decode cX6_pairsInConflict 18 = .ok (.aload_n 0, 1) := by decide +kernel
theorem dX6_pairsInConflict_19 : decode cX6_pairsInConflict 19 = .ok (.iload_n 2, 1) := by decide +kernel
theorem dX6_pairsInConflict_20 : decode cX6_pairsInConflict 20 = .ok (.invokevirtual 146, 3) := by decide +kernel
theorem dX6_pairsInConflict_23 : decode cX6_pairsInConflict 23 = .ok (.iconst 0, 1) := by decide +kernel
theorem dX6_pairsInConflict_24 : decode cX6_pairsInConflict 24 = .ok (.istore_n 3, 1) := by decide +kernel
theorem dX6_pairsInConflict_25 : decode cX6_pairsInConflict 25 = .ok (.iload_n 3, 1) := by decide +kernel
theorem dX6_pairsInConflict_26 : decode cX6_pairsInConflict 26 = .ok (.iload_n 2, 1) := by decide +kernel
theorem dX6_pairsInConflict_27 : decode cX6_pairsInConflict 27 = .ok (.if_icmp .ge 30, 3) := by decide +kernel
theorem dX6_pairsInConflict_30 : decode cX6_pairsInConflict 30 = .ok (.aload_n 0, 1) := by decide +kernel
theorem dX6_pairsInConflict_31 : decode cX6_pairsInConflict 31 = .ok (.getfield 17, 3) := by decide +kernel
theorem dX6_pairsInConflict_34 : decode cX6_pairsInConflict 34 = .ok (.iload_n 2, 1) := by decide +kernel
theorem dX6_pairsInConflict_35 : decode cX6_pairsInConflict 35 = .ok (.aaload, 1) := by decide +kernel
theorem dX6_pairsInConflict_36 : decode cX6_pairsInConflict 36 = .ok (.aload_n 0, 1) := by decide +kernel
theorem dX6_pairsInConflict_37 : decode cX6_pairsInConflict 37 = .ok (.getfield 17, 3) := by decide +kernel
theorem dX6_pairsInConflict_40 : decode cX6_pairsInConflict 40 = .ok (.iload_n 3, 1) := by decide +kernel
theorem dX6_pairsInConflict_41 : decode cX6_pairsInConflict 41 = .ok (.aaload, 1) := by decide +kernel
theorem dX6_pairsInConflict_42 : decode cX6_pairsInConflict 42 = .ok (.invokevirtual 149, 3) := by decide +kernel
theorem dX6_pairsInConflict_45 : decode cX6_pairsInConflict 45 = .ok (.ifCond .eq 6, 3) := by decide +kernel
theorem dX6_pairsInConflict_48 : decode cX6_pairsInConflict 48 = .ok (.iinc 1 1, 3) := by decide +kernel
theorem dX6_pairsInConflict_51 : decode cX6_pairsInConflict 51 = .ok (.iinc 3 1, 3) := by decide +kernel
theorem dX6_pairsInConflict_54 : decode cX6_pairsInConflict 54 = .ok (.goto (-29), 3) := by decide +kernel
theorem dX6_pairsInConflict_57 : decode cX6_pairsInConflict 57 = .ok (.iinc 2 1, 3) := by decide +kernel
theorem dX6_pairsInConflict_60 : decode cX6_pairsInConflict 60 = .ok (.goto (-56), 3) := by decide +kernel
theorem dX6_pairsInConflict_63 : decode cX6_pairsInConflict 63 = .ok (.iload_n 1, 1) := by decide +kernel
theorem dX6_pairsInConflict_64 : decode cX6_pairsInConflict 64 = .ok (.ireturn, 1) := by decide +kernel
theorem dX6_advance_0 : decode cX6_advance 0 = .ok (.aload_n 0, 1) := by decide +kernel
theorem dX6_advance_1 : decode cX6_advance 1 = .ok (.aload_n 0, 1) := by decide +kernel
theorem dX6_advance_2 : decode cX6_advance 2 = .ok (.getfield 60, 3) := by decide +kernel
theorem dX6_advance_5 : decode cX6_advance 5 = .ok (.iload_n 1, 1) := by decide +kernel
theorem dX6_advance_6 : decode cX6_advance 6 = .ok (.iadd, 1) := by decide +kernel
theorem dX6_advance_7 : decode cX6_advance 7 = .ok (.bipush 60, 2) := by decide +kernel
theorem dX6_advance_9 : decode cX6_advance 9 = .ok (.invokestatic 68, 3) := by decide +kernel
theorem dX6_advance_12 : decode cX6_advance 12 = .ok (.putfield 60, 3) := by decide +kernel
theorem dX6_advance_15 : decode cX6_advance 15 = .ok (.iconst 0, 1) := by decide +kernel
theorem dX6_advance_16 : decode cX6_advance 16 = .ok (.istore_n 2, 1) := by decide +kernel
theorem dX6_advance_17 : decode cX6_advance 17 = .ok (.iconst 0, 1) := by decide +kernel
theorem dX6_advance_18 : decode cX6_advance 18 = .ok (.istore_n 3, 1) := by decide +kernel
theorem dX6_advance_19 : decode cX6_advance 19 = .ok (.iload_n 3, 1) := by decide +kernel
theorem dX6_advance_20 : decode cX6_advance 20 = .ok (.aload_n 0, 1) := by decide +kernel
theorem dX6_advance_21 : decode cX6_advance 21 = .ok (.getfield 74, 3) := by decide +kernel
theorem dX6_advance_24 : decode cX6_advance 24 = .ok (.if_icmp .ge 37, 3) := by decide +kernel
theorem dX6_advance_27 : decode cX6_advance 27 = .ok (.aload_n 0, 1) := by decide +kernel
theorem dX6_advance_28 : decode cX6_advance 28 = .ok (.getfield 28, 3) := by decide +kernel
theorem dX6_advance_31 : decode cX6_advance 31 = .ok (.getfield 82, 3) := by decide +kernel
theorem dX6_advance_34 : decode cX6_advance 34 = .ok (.iload_n 3, 1) := by decide +kernel
theorem dX6_advance_35 : decode cX6_advance 35 = .ok (.aload_n 0, 1) := by decide +kernel
theorem dX6_advance_36 : decode cX6_advance 36 = .ok (.iload_n 3, 1) := by decide +kernel
theorem dX6_advance_37 : decode cX6_advance 37 = .ok (.iconst 0, 1) := by decide +kernel
theorem dX6_advance_38 : decode cX6_advance 38 = .ok (.invokevirtual 153, 3) := by decide +kernel
theorem dX6_advance_41 : decode cX6_advance 41 = .ok (.invokevirtual 156, 3) := by decide +kernel
theorem dX6_advance_44 : decode cX6_advance 44 = .ok (.aload_n 0, 1) := by decide +kernel
theorem dX6_advance_45 : decode cX6_advance 45 = .ok (.iload_n 3, 1) := by decide +kernel
theorem dX6_advance_46 : decode cX6_advance 46 = .ok (.invokevirtual 159, 3) := by decide +kernel
theorem dX6_advance_49 : decode cX6_advance 49 = .ok (.ifCond .ne 6, 3) := by decide +kernel
theorem dX6_advance_52 : decode cX6_advance 52 = .ok (.iinc 2 1, 3) := by decide +kernel
theorem dX6_advance_55 : decode cX6_advance 55 = .ok (.iinc 3 1, 3) := by decide +kernel
theorem dX6_advance_58 : decode cX6_advance 58 = .ok (.goto (-39), 3) := by decide +kernel
theorem dX6_advance_61 : decode cX6_advance 61 = .ok (.iload_n 2, 1) := by decide +kernel
theorem dX6_advance_62 : decode cX6_advance 62 = .ok (.ireturn, 1) := by decide +kernel
theorem dX6_flightOf_0 : decode cX6_flightOf 0 = .ok (.aload_n 0, 1) := by decide +kernel
theorem dX6_flightOf_1 : decode cX6_flightOf 1 = .ok (.getfield 11, 3) := by decide +kernel
theorem dX6_flightOf_4 : decode cX6_flightOf 4 = .ok (.iconst 0, 1) := by decide +kernel
theorem dX6_flightOf_5 : decode cX6_flightOf 5 = .ok (.iload_n 1, 1) := by decide +kernel
theorem dX6_flightOf_6 : decode cX6_flightOf 6 = .ok (.iconst 5, 1) := by decide +kernel
theorem dX6_flightOf_7 : decode cX6_flightOf 7 = .ok (.invokestatic 68, 3) := by decide +kernel
theorem dX6_flightOf_10 : decode cX6_flightOf 10 = .ok (.invokestatic 116, 3) := by decide +kernel
theorem dX6_flightOf_13 : decode cX6_flightOf 13 = .ok (.aaload, 1) := by decide +kernel
theorem dX6_flightOf_14 : decode cX6_flightOf 14 = .ok (.areturn, 1) := by decide +kernel
theorem dX6_takeOrder_0 : decode cX6_takeOrder 0 = .ok (.iconst 0, 1) := by decide +kernel
theorem dX6_takeOrder_1 : decode cX6_takeOrder 1 = .ok (.istore_n 2, 1) := by decide +kernel
theorem dX6_takeOrder_2 : decode cX6_takeOrder 2 = .ok (.iload_n 2, 1) := by decide +kernel
theorem dX6_takeOrder_3 : decode cX6_takeOrder 3 = .ok (.aload_n 0, 1) := by decide +kernel
theorem dX6_takeOrder_4 : decode cX6_takeOrder 4 = .ok (.getfield 74, 3) := by decide +kernel
theorem dX6_takeOrder_7 : decode cX6_takeOrder 7 = .ok (.if_icmp .ge 97, 3) := by decide +kernel
theorem dX6_takeOrder_10 : decode cX6_takeOrder 10 = .ok (.iconst 0, 1) := by decide +kernel
theorem dX6_takeOrder_11 : decode cX6_takeOrder 11 = .ok (.istore_n 3, 1) := by decide +kernel
theorem dX6_takeOrder_12 : decode cX6_takeOrder 12 = .ok (.iconst 0, 1) := by decide +kernel
theorem dX6_takeOrder_13 : decode cX6_takeOrder 13 = .ok (.istore 4, 2) := by decide +kernel
theorem dX6_takeOrder_15 : decode cX6_takeOrder 15 = .ok (.iload 4, 2) := by decide +kernel
theorem dX6_takeOrder_17 : decode cX6_takeOrder 17 = .ok (.aload_n 0, 1) := by decide +kernel
theorem dX6_takeOrder_18 : decode cX6_takeOrder 18 = .ok (.getfield 74, 3) := by decide +kernel
theorem dX6_takeOrder_21 : decode cX6_takeOrder 21 = .ok (.if_icmp .ge 42, 3) := by decide +kernel
theorem dX6_takeOrder_24 : decode cX6_takeOrder 24 = .ok (.aload_n 1, 1) := by decide +kernel
theorem dX6_takeOrder_25 : decode cX6_takeOrder 25 = .ok (.iload 4, 2) := by decide +kernel
theorem dX6_takeOrder_27 : decode cX6_takeOrder 27 = .ok (.invokevirtual 162, 3) := by decide +kernel
theorem dX6_takeOrder_30 : decode cX6_takeOrder 30 = .ok (.aload_n 1, 1) := by decide +kernel
theorem dX6_takeOrder_31 : decode cX6_takeOrder 31 = .ok (.iload_n 2, 1) := by decide +kernel
theorem dX6_takeOrder_32 : decode cX6_takeOrder 32 = .ok (.invokevirtual 162, 3) := by decide +kernel
theorem dX6_takeOrder_35 : decode cX6_takeOrder 35 = .ok (.isub, 1) := by decide +kernel
theorem dX6_takeOrder_36 : decode cX6_takeOrder 36 = .ok (.istore 5, 2) := by decide +kernel
theorem dX6_takeOrder_38 : decode cX6_takeOrder 38 = .ok (.iload 5, 2) := by decide +kernel
theorem dX6_takeOrder_40 : decode cX6_takeOrder 40 = .ok (.ifCond .gt 14, 3) := by decide +kernel
theorem dX6_takeOrder_43 : decode cX6_takeOrder 43 = .ok (.iload 5, 2) := by decide +kernel
theorem dX6_takeOrder_45 : decode cX6_takeOrder 45 = .ok (.ifCond .ne 12, 3) := by decide +kernel
theorem dX6_takeOrder_48 : decode cX6_takeOrder 48 = .ok (.iload 4, 2) := by decide +kernel
theorem dX6_takeOrder_50 : decode cX6_takeOrder 50 = .ok (.iload_n 2, 1) := by decide +kernel
theorem dX6_takeOrder_51 : decode cX6_takeOrder 51 = .ok (.if_icmp .ge 6, 3) := by decide +kernel
theorem dX6_takeOrder_54 : decode cX6_takeOrder 54 = .ok (.iinc 3 1, 3) := by decide +kernel
theorem dX6_takeOrder_57 : decode cX6_takeOrder 57 = .ok (.iinc 4 1, 3) := by decide +kernel
theorem dX6_takeOrder_60 : decode cX6_takeOrder 60 = .ok (.goto (-45), 3) := by decide +kernel
theorem dX6_takeOrder_63 : decode cX6_takeOrder 63 = .ok (.aload_n 0, 1) := by decide +kernel
theorem dX6_takeOrder_64 : decode cX6_takeOrder 64 = .ok (.iload_n 2, 1) := by decide +kernel
theorem dX6_takeOrder_65 : decode cX6_takeOrder 65 = .ok (.invokevirtual 104, 3) := by decide +kernel
theorem dX6_takeOrder_68 : decode cX6_takeOrder 68 = .ok (.iload_n 3, 1) := by decide +kernel
theorem dX6_takeOrder_69 : decode cX6_takeOrder 69 = .ok (.putfield 123, 3) := by decide +kernel
theorem dX6_takeOrder_72 : decode cX6_takeOrder 72 = .ok (.aload_n 0, 1) := by decide +kernel
theorem dX6_takeOrder_73 : decode cX6_takeOrder 73 = .ok (.iload_n 2, 1) := by decide +kernel
theorem dX6_takeOrder_74 : decode cX6_takeOrder 74 = .ok (.invokevirtual 104, 3) := by decide +kernel
theorem dX6_takeOrder_77 : decode cX6_takeOrder 77 = .ok (.aload_n 1, 1) := by decide +kernel
theorem dX6_takeOrder_78 : decode cX6_takeOrder 78 = .ok (.iload_n 2, 1) := by decide +kernel
theorem dX6_takeOrder_79 : decode cX6_takeOrder 79 = .ok (.invokevirtual 165, 3) := by decide +kernel
theorem dX6_takeOrder_82 : decode cX6_takeOrder 82 = .ok (.putfield 126, 3) := by decide +kernel
theorem dX6_takeOrder_85 : decode cX6_takeOrder 85 = .ok (.iload_n 3, 1) := by decide +kernel
theorem dX6_takeOrder_86 : decode cX6_takeOrder 86 = .ok (.bipush 6, 2) := by decide +kernel
theorem dX6_takeOrder_88 : decode cX6_takeOrder 88 = .ok (.if_icmp .ge 10, 3) := by decide +kernel
theorem dX6_takeOrder_91 : decode cX6_takeOrder 91 = .ok (.aload_n 0, 1) := by decide +kernel
theorem dX6_takeOrder_92 : decode cX6_takeOrder 92 = .ok (.getfield 20, 3) := by decide +kernel
theorem dX6_takeOrder_95 : decode cX6_takeOrder 95 = .ok (.iload_n 3, 1) := by decide +kernel
theorem dX6_takeOrder_96 : decode cX6_takeOrder 96 = .ok (.iload_n 2, 1) := by decide +kernel
theorem dX6_takeOrder_97 : decode cX6_takeOrder 97 = .ok (.iastore, 1) := by decide +kernel
theorem dX6_takeOrder_98 : decode cX6_takeOrder 98 = .ok (.iinc 2 1, 3) := by decide +kernel
theorem dX6_takeOrder_101 : decode cX6_takeOrder 101 = .ok (.goto (-99), 3) := by decide +kernel
theorem dX6_takeOrder_104 : decode cX6_takeOrder 104 = .ok (.return_, 1) := by decide +kernel
theorem dX6_goalOf_0 : decode cX6_goalOf 0 = .ok (.aload_n 0, 1) := by decide +kernel
theorem dX6_goalOf_1 : decode cX6_goalOf 1 = .ok (.getfield 28, 3) := by decide +kernel
theorem dX6_goalOf_4 : decode cX6_goalOf 4 = .ok (.getfield 168, 3) := by decide +kernel
theorem dX6_goalOf_7 : decode cX6_goalOf 7 = .ok (.aload_n 0, 1) := by decide +kernel
theorem dX6_goalOf_8 : decode cX6_goalOf 8 = .ok (.iload_n 1, 1) := by decide +kernel
theorem dX6_goalOf_9 : decode cX6_goalOf 9 = .ok (.invokevirtual 104, 3) := by decide +kernel
theorem dX6_goalOf_12 : decode cX6_goalOf 12 = .ok (.getfield 126, 3) := by decide +kernel
theorem dX6_goalOf_15 : decode cX6_goalOf 15 = .ok (.invokevirtual 88, 3) := by decide +kernel
theorem dX6_goalOf_18 : decode cX6_goalOf 18 = .ok (.ireturn, 1) := by decide +kernel
theorem dX6_isMet_0 : decode cX6_isMet 0 = .ok (.aload_n 0, 1) := by decide +kernel
theorem dX6_isMet_1 : decode cX6_isMet 1 = .ok (.getfield 32, 3) := by decide +kernel
theorem dX6_isMet_4 : decode cX6_isMet 4 = .ok (.iload_n 3, 1) := by decide +kernel
theorem dX6_isMet_5 : decode cX6_isMet 5 = .ok (.iload 4, 2) := by decide +kernel
theorem dX6_isMet_7 : decode cX6_isMet 7 = .ok (.invokevirtual 171, 3) := by decide +kernel
theorem dX6_isMet_10 : decode cX6_isMet 10 = .ok (.istore 5, 2) := by decide +kernel
theorem dX6_isMet_12 : decode cX6_isMet 12 = .ok (.aload_n 0, 1) := by decide +kernel
theorem dX6_isMet_13 : decode cX6_isMet 13 = .ok (.getfield 32, 3) := by decide +kernel
theorem dX6_isMet_16 : decode cX6_isMet 16 = .ok (.iload_n 3, 1) := by decide +kernel
theorem dX6_isMet_17 : decode cX6_isMet 17 = .ok (.iload 4, 2) := by decide +kernel
theorem dX6_isMet_19 : decode cX6_isMet 19 = .ok (.invokevirtual 176, 3) := by decide +kernel
theorem dX6_isMet_22 : decode cX6_isMet 22 = .ok (.istore 6, 2) := by decide +kernel
theorem dX6_isMet_24 : decode cX6_isMet 24 = .ok (.iload_n 2, 1) := by decide +kernel
theorem dX6_isMet_25 : decode cX6_isMet 25 = .ok (.iload 6, 2) := by decide +kernel
theorem dX6_isMet_27 : decode cX6_isMet 27 = .ok (.iadd, 1) := by decide +kernel
theorem dX6_isMet_28 : decode cX6_isMet 28 = .ok (.istore 7, 2) := by decide +kernel
theorem dX6_isMet_30 : decode cX6_isMet 30 = .ok (.iload 6, 2) := by decide +kernel
theorem dX6_isMet_32 : decode cX6_isMet 32 = .ok (.iconst 2, 1) := by decide +kernel
theorem dX6_isMet_33 : decode cX6_isMet 33 = .ok (.if_icmp .ne 16, 3) := by decide +kernel
theorem dX6_isMet_36 : decode cX6_isMet 36 = .ok (.aload_n 1, 1) := by decide +kernel
theorem dX6_isMet_37 : decode cX6_isMet 37 = .ok (.iload_n 2, 1) := by decide +kernel
theorem dX6_isMet_38 : decode cX6_isMet 38 = .ok (.iconst 1, 1) := by decide +kernel
theorem dX6_isMet_39 : decode cX6_isMet 39 = .ok (.iadd, 1) := by decide +kernel
theorem dX6_isMet_40 : decode cX6_isMet 40 = .ok (.invokevirtual 119, 3) := by decide +kernel
