theorem dX6_isMet_43 : decode cX6_isMet 43 = .ok (.iload_n 3, 1) := by decide +kernel
theorem dX6_isMet_44 : decode cX6_isMet 44 = .ok (.if_icmp .ne 5, 3) := by decide +kernel
theorem dX6_isMet_47 : decode cX6_isMet 47 = .ok (.iconst 1, 1) := by decide +kernel
theorem dX6_isMet_48 : decode cX6_isMet 48 = .ok (.ireturn, 1) := by decide +kernel
theorem dX6_isMet_49 : decode cX6_isMet 49 = .ok (.aload_n 1, 1) := by decide +kernel
theorem dX6_isMet_50 : decode cX6_isMet 50 = .ok (.iload 7, 2) := by decide +kernel
theorem dX6_isMet_52 : decode cX6_isMet 52 = .ok (.invokevirtual 119, 3) := by decide +kernel
theorem dX6_isMet_55 : decode cX6_isMet 55 = .ok (.iload 5, 2) := by decide +kernel
theorem dX6_isMet_57 : decode cX6_isMet 57 = .ok (.if_icmp .ne 5, 3) := by decide +kernel
theorem dX6_isMet_60 : decode cX6_isMet 60 = .ok (.iconst 1, 1) := by decide +kernel
theorem dX6_isMet_61 : decode cX6_isMet 61 = .ok (.ireturn, 1) := by decide +kernel
theorem dX6_isMet_62 : decode cX6_isMet 62 = .ok (.aload_n 1, 1) := by decide +kernel
theorem dX6_isMet_63 : decode cX6_isMet 63 = .ok (.iload 7, 2) := by decide +kernel
theorem dX6_isMet_65 : decode cX6_isMet 65 = .ok (.iconst 1, 1) := by decide +kernel
theorem dX6_isMet_66 : decode cX6_isMet 66 = .ok (.isub, 1) := by decide +kernel
theorem dX6_isMet_67 : decode cX6_isMet 67 = .ok (.invokevirtual 119, 3) := by decide +kernel
theorem dX6_isMet_70 : decode cX6_isMet 70 = .ok (.iload 5, 2) := by decide +kernel
theorem dX6_isMet_72 : decode cX6_isMet 72 = .ok (.if_icmp .ne 17, 3) := by decide +kernel
theorem dX6_isMet_75 : decode cX6_isMet 75 = .ok (.aload_n 1, 1) := by decide +kernel
theorem dX6_isMet_76 : decode cX6_isMet 76 = .ok (.iload 7, 2) := by decide +kernel
theorem dX6_isMet_78 : decode cX6_isMet 78 = .ok (.invokevirtual 119, 3) := by decide +kernel
theorem dX6_isMet_81 : decode cX6_isMet 81 = .ok (.iload_n 3, 1) := by decide +kernel
theorem dX6_isMet_82 : decode cX6_isMet 82 = .ok (.if_icmp .ne 7, 3) := by decide +kernel
theorem dX6_isMet_85 : decode cX6_isMet 85 = .ok (.iconst 1, 1) := by decide +kernel
theorem dX6_isMet_86 : decode cX6_isMet 86 = .ok (.goto 4, 3) := by decide +kernel
theorem dX6_isMet_89 : decode cX6_isMet 89 = .ok (.iconst 0, 1) := by decide +kernel
theorem dX6_isMet_90 : decode cX6_isMet 90 = .ok (.ireturn, 1) := by decide +kernel
theorem dX6_layWay_0 : decode cX6_layWay 0 = .ok (.iload_n 1, 1) := by decide +kernel
theorem dX6_layWay_1 : decode cX6_layWay 1 = .ok (.ifCond .lt 9, 3) := by decide +kernel
theorem dX6_layWay_4 : decode cX6_layWay 4 = .ok (.iload_n 1, 1) := by decide +kernel
theorem dX6_layWay_5 : decode cX6_layWay 5 = .ok (.bipush 6, 2) := by decide +kernel
theorem dX6_layWay_7 : decode cX6_layWay 7 = .ok (.if_icmp .lt 4, 3) := by decide +kernel
theorem dX6_layWay_10 : decode cX6_layWay 10 = .ok (.return_, 1) := by decide +kernel
theorem dX6_layWay_11 : decode cX6_layWay 11 = .ok (.aload_n 0, 1) := by decide +kernel
theorem dX6_layWay_12 : decode cX6_layWay 12 = .ok (.getfield 41, 3) := by decide +kernel
theorem dX6_layWay_15 : decode cX6_layWay 15 = .ok (.aload_n 0, 1) := by decide +kernel
theorem dX6_layWay_16 : decode cX6_layWay 16 = .ok (.iload_n 1, 1) := by decide +kernel
theorem dX6_layWay_17 : decode cX6_layWay 17 = .ok (.invokevirtual 94, 3) := by decide +kernel
theorem dX6_layWay_20 : decode cX6_layWay 20 = .ok (.invokevirtual 132, 3) := by decide +kernel
theorem dX6_layWay_23 : decode cX6_layWay 23 = .ok (.aload_n 0, 1) := by decide +kernel
theorem dX6_layWay_24 : decode cX6_layWay 24 = .ok (.getfield 28, 3) := by decide +kernel
theorem dX6_layWay_27 : decode cX6_layWay 27 = .ok (.getfield 82, 3) := by decide +kernel
theorem dX6_layWay_30 : decode cX6_layWay 30 = .ok (.iload_n 1, 1) := by decide +kernel
theorem dX6_layWay_31 : decode cX6_layWay 31 = .ok (.invokevirtual 88, 3) := by decide +kernel
theorem dX6_layWay_34 : decode cX6_layWay 34 = .ok (.istore_n 2, 1) := by decide +kernel
theorem dX6_layWay_35 : decode cX6_layWay 35 = .ok (.aload_n 0, 1) := by decide +kernel
theorem dX6_layWay_36 : decode cX6_layWay 36 = .ok (.getfield 17, 3) := by decide +kernel
theorem dX6_layWay_39 : decode cX6_layWay 39 = .ok (.iload_n 1, 1) := by decide +kernel
theorem dX6_layWay_40 : decode cX6_layWay 40 = .ok (.aaload, 1) := by decide +kernel
theorem dX6_layWay_41 : decode cX6_layWay 41 = .ok (.iload_n 2, 1) := by decide +kernel
theorem dX6_layWay_42 : decode cX6_layWay 42 = .ok (.invokevirtual 179, 3) := by decide +kernel
theorem dX6_layWay_45 : decode cX6_layWay 45 = .ok (.aload_n 0, 1) := by decide +kernel
theorem dX6_layWay_46 : decode cX6_layWay 46 = .ok (.getfield 41, 3) := by decide +kernel
theorem dX6_layWay_49 : decode cX6_layWay 49 = .ok (.iload_n 2, 1) := by decide +kernel
theorem dX6_layWay_50 : decode cX6_layWay 50 = .ok (.invokevirtual 139, 3) := by decide +kernel
theorem dX6_layWay_53 : decode cX6_layWay 53 = .ok (.istore_n 3, 1) := by decide +kernel
theorem dX6_layWay_54 : decode cX6_layWay 54 = .ok (.iconst 0, 1) := by decide +kernel
theorem dX6_layWay_55 : decode cX6_layWay 55 = .ok (.istore 4, 2) := by decide +kernel
theorem dX6_layWay_57 : decode cX6_layWay 57 = .ok (.iload 4, 2) := by decide +kernel
theorem dX6_layWay_59 : decode cX6_layWay 59 = .ok (.bipush 60, 2) := by decide +kernel
theorem dX6_layWay_61 : decode cX6_layWay 61 = .ok (.if_icmp .ge 57, 3) := by decide +kernel
theorem dX6_layWay_64 : decode cX6_layWay 64 = .ok (.iload_n 3, 1) := by decide +kernel
theorem dX6_layWay_65 : decode cX6_layWay 65 = .ok (.ifCond .eq 53, 3) := by decide +kernel
theorem dX6_layWay_68 : decode cX6_layWay 68 = .ok (.aload_n 0, 1) := by decide +kernel
theorem dX6_layWay_69 : decode cX6_layWay 69 = .ok (.getfield 32, 3) := by decide +kernel
theorem dX6_layWay_72 : decode cX6_layWay 72 = .ok (.iload_n 2, 1) := by decide +kernel
theorem dX6_layWay_73 : decode cX6_layWay 73 = .ok (.iload_n 3, 1) := by decide +kernel
theorem dX6_layWay_74 : decode cX6_layWay 74 = .ok (.invokevirtual 171, 3) := by decide +kernel
theorem dX6_layWay_77 : decode cX6_layWay 77 = .ok (.istore 5, 2) := by decide +kernel
theorem dX6_layWay_79 : decode cX6_layWay 79 = .ok (.aload_n 0, 1) := by decide +kernel
theorem dX6_layWay_80 : decode cX6_layWay 80 = .ok (.getfield 17, 3) := by decide +kernel
theorem dX6_layWay_83 : decode cX6_layWay 83 = .ok (.iload_n 1, 1) := by decide +kernel
theorem dX6_layWay_84 : decode cX6_layWay 84 = .ok (.aaload, 1) := by decide +kernel
theorem dX6_layWay_85 : decode cX6_layWay 85 = .ok (.iload_n 3, 1) := by decide +kernel
theorem dX6_layWay_86 : decode cX6_layWay 86 = .ok (.aload_n 0, 1) := by decide +kernel
theorem dX6_layWay_87 : decode cX6_layWay 87 = .ok (.getfield 32, 3) := by decide +kernel
theorem dX6_layWay_90 : decode cX6_layWay 90 = .ok (.iload_n 2, 1) := by decide +kernel
theorem dX6_layWay_91 : decode cX6_layWay 91 = .ok (.iload_n 3, 1) := by decide +kernel
theorem dX6_layWay_92 : decode cX6_layWay 92 = .ok (.invokevirtual 176, 3) := by decide +kernel
theorem dX6_layWay_95 : decode cX6_layWay 95 = .ok (.iload 5, 2) := by decide +kernel
theorem dX6_layWay_97 : decode cX6_layWay 97 = .ok (.invokevirtual 182, 3) := by decide +kernel
theorem dX6_layWay_100 : decode cX6_layWay 100 = .ok (.iload 5, 2) := by decide +kernel
theorem dX6_layWay_102 : decode cX6_layWay 102 = .ok (.istore_n 2, 1) := by decide +kernel
theorem dX6_layWay_103 : decode cX6_layWay 103 = .ok (.aload_n 0, 1) := by decide +kernel
theorem dX6_layWay_104 : decode cX6_layWay 104 = .ok (.getfield 41, 3) := by decide +kernel
theorem dX6_layWay_107 : decode cX6_layWay 107 = .ok (.iload_n 2, 1) := by decide +kernel
theorem dX6_layWay_108 : decode cX6_layWay 108 = .ok (.invokevirtual 139, 3) := by decide +kernel
theorem dX6_layWay_111 : decode cX6_layWay 111 = .ok (.istore_n 3, 1) := by decide +kernel
theorem dX6_layWay_112 : decode cX6_layWay 112 = .ok (.iinc 4 1, 3) := by decide +kernel
theorem dX6_layWay_115 : decode cX6_layWay 115 = .ok (.goto (-58), 3) := by decide +kernel
theorem dX6_layWay_118 : decode cX6_layWay 118 = .ok (.return_, 1) := by decide +kernel
theorem dX7_init_0 : decode cX7_init 0 = .ok (.aload_n 0, 1) := by decide +kernel
theorem dX7_init_1 : decode cX7_init 1 = .ok (.invokespecial 3, 3) := by decide +kernel
theorem dX7_init_4 : decode cX7_init 4 = .ok (.aload_n 0, 1) := by decide +kernel
theorem dX7_init_5 : decode cX7_init 5 = .ok (.sipush 6588, 3) := by decide +kernel
theorem dX7_init_8 : decode cX7_init 8 = .ok (.newarray .int, 2) := by decide +kernel
theorem dX7_init_10 : decode cX7_init 10 = .ok (.putfield 9, 3) := by decide +kernel
theorem dX7_init_13 : decode cX7_init 13 = .ok (.aload_n 0, 1) := by decide +kernel
theorem dX7_init_14 : decode cX7_init 14 = .ok (.sipush 6588, 3) := by decide +kernel
theorem dX7_init_17 : decode cX7_init 17 = .ok (.newarray .int, 2) := by decide +kernel
theorem dX7_init_19 : decode cX7_init 19 = .ok (.putfield 15, 3) := by decide +kernel
theorem dX7_init_22 : decode cX7_init 22 = .ok (.aload_n 0, 1) := by decide +kernel
theorem dX7_init_23 : decode cX7_init 23 = .ok (.aload_n 1, 1) := by decide +kernel
theorem dX7_init_24 : decode cX7_init 24 = .ok (.putfield 18, 3) := by decide +kernel
theorem dX7_init_27 : decode cX7_init 27 = .ok (.return_, 1) := by decide +kernel
theorem dX7_free_0 : decode cX7_free 0 = .ok (.aload_n 0, 1) := by decide +kernel
theorem dX7_free_1 : decode cX7_free 1 = .ok (.getfield 9, 3) := by decide +kernel
theorem dX7_free_4 : decode cX7_free 4 = .ok (.iconst 0, 1) := by decide +kernel
theorem dX7_free_5 : decode cX7_free 5 = .ok (.invokestatic 22, 3) := by decide +kernel
theorem dX7_free_8 : decode cX7_free 8 = .ok (.return_, 1) := by decide +kernel
theorem dX7_hold_0 : decode cX7_hold 0 = .ok (.iconst 0, 1) := by decide +kernel
theorem dX7_hold_1 : decode cX7_hold 1 = .ok (.istore_n 3, 1) := by decide +kernel
theorem dX7_hold_2 : decode cX7_hold 2 = .ok (.iload_n 3, 1) := by decide +kernel
theorem dX7_hold_3 : decode cX7_hold 3 = .ok (.bipush 60, 2) := by decide +kernel
theorem dX7_hold_5 : decode cX7_hold 5 = .ok (.if_icmp .gt 36, 3) := by decide +kernel
theorem dX7_hold_8 : decode cX7_hold 8 = .ok (.iload_n 3, 1) := by decide +kernel
theorem dX7_hold_9 : decode cX7_hold 9 = .ok (.aload_n 1, 1) := by decide +kernel
theorem dX7_hold_10 : decode cX7_hold 10 = .ok (.iload_n 3, 1) := by decide +kernel
theorem dX7_hold_11 : decode cX7_hold 11 = .ok (.invokevirtual 28, 3) := by decide +kernel
theorem dX7_hold_14 : decode cX7_hold 14 = .ok (.invokestatic 34, 3) := by decide +kernel
theorem dX7_hold_17 : decode cX7_hold 17 = .ok (.istore 4, 2) := by decide +kernel
theorem dX7_hold_19 : decode cX7_hold 19 = .ok (.iload 4, 2) := by decide +kernel
theorem dX7_hold_21 : decode cX7_hold 21 = .ok (.iconst (-1), 1) := by decide +kernel
theorem dX7_hold_22 : decode cX7_hold 22 = .ok (.if_icmp .eq 13, 3) := by decide +kernel
theorem dX7_hold_25 : decode cX7_hold 25 = .ok (.aload_n 0, 1) := by decide +kernel
theorem dX7_hold_26 : decode cX7_hold 26 = .ok (.getfield 9, 3) := by decide +kernel
theorem dX7_hold_29 : decode cX7_hold 29 = .ok (.iload 4, 2) := by decide +kernel
theorem dX7_hold_31 : decode cX7_hold 31 = .ok (.iload_n 2, 1) := by decide +kernel
theorem dX7_hold_32 : decode cX7_hold 32 = .ok (.iconst 1, 1) := by decide +kernel
theorem dX7_hold_33 : decode cX7_hold 33 = .ok (.iadd, 1) := by decide +kernel
theorem dX7_hold_34 : decode cX7_hold 34 = .ok (.iastore, 1) := by decide +kernel
theorem dX7_hold_35 : decode cX7_hold 35 = .ok (.iinc 3 1, 3) := by decide +kernel
theorem dX7_hold_38 : decode cX7_hold 38 = .ok (.goto (-36), 3) := by decide +kernel
theorem dX7_hold_41 : decode cX7_hold 41 = .ok (.return_, 1) := by decide +kernel
theorem dX7_earliestArrival_0 : decode cX7_earliestArrival 0 = .ok (.aload_n 0, 1) := by decide +kernel
theorem dX7_earliestArrival_1 : decode cX7_earliestArrival 1 = .ok (.getfield 15, 3) := by decide +kernel
theorem dX7_earliestArrival_4 : decode cX7_earliestArrival 4 = .ok (.iconst 0, 1) := by decide +kernel
theorem dX7_earliestArrival_5 : decode cX7_earliestArrival 5 = .ok (.invokestatic 22, 3) := by decide +kernel
theorem dX7_earliestArrival_8 : decode cX7_earliestArrival 8 = .ok (.aload_n 0, 1) := by decide +kernel
theorem dX7_earliestArrival_9 : decode cX7_earliestArrival 9 = .ok (.iconst 0, 1) := by decide +kernel
theorem dX7_earliestArrival_10 : decode cX7_earliestArrival 10 = .ok (.iload_n 1, 1) := by decide +kernel
theorem dX7_earliestArrival_11 : decode cX7_earliestArrival 11 = .ok (.invokestatic 34, 3) := by decide +kernel
theorem dX7_earliestArrival_14 : decode cX7_earliestArrival 14 = .ok (.iconst 1, 1) := by decide +kernel
theorem dX7_earliestArrival_15 : decode cX7_earliestArrival 15 = .ok (.invokevirtual 38, 3) := by decide +kernel
theorem dX7_earliestArrival_18 : decode cX7_earliestArrival 18 = .ok (.aload_n 0, 1) := by decide +kernel
theorem dX7_earliestArrival_19 : decode cX7_earliestArrival 19 = .ok (.iload_n 2, 1) := by decide +kernel
theorem dX7_earliestArrival_20 : decode cX7_earliestArrival 20 = .ok (.invokevirtual 42, 3) := by decide +kernel
theorem dX7_earliestArrival_23 : decode cX7_earliestArrival 23 = .ok (.istore_n 3, 1) := by decide +kernel
theorem dX7_earliestArrival_24 : decode cX7_earliestArrival 24 = .ok (.iconst 0, 1) := by decide +kernel
theorem dX7_earliestArrival_25 : decode cX7_earliestArrival 25 = .ok (.istore 4, 2) := by decide +kernel
theorem dX7_earliestArrival_27 : decode cX7_earliestArrival 27 = .ok (.iload 4, 2) := by decide +kernel
theorem dX7_earliestArrival_29 : decode cX7_earliestArrival 29 = .ok (.bipush 60, 2) := by decide +kernel
theorem dX7_earliestArrival_31 : decode cX7_earliestArrival 31 = .ok (.if_icmp .gt 69, 3) := by decide +kernel
theorem dX7_earliestArrival_34 : decode cX7_earliestArrival 34 = .ok (.iload 4, 2) := by decide +kernel
theorem dX7_earliestArrival_36 : decode cX7_earliestArrival 36 = .ok (.iload_n 3, 1) := by decide +kernel
theorem dX7_earliestArrival_37 : decode cX7_earliestArrival 37 = .ok (.if_icmp .lt 19, 3) := by decide +kernel
theorem dX7_earliestArrival_40 : decode cX7_earliestArrival 40 = .ok (.aload_n 0, 1) := by decide +kernel
theorem dX7_earliestArrival_41 : decode cX7_earliestArrival 41 = .ok (.iload 4, 2) := by decide +kernel
theorem dX7_earliestArrival_43 : decode cX7_earliestArrival 43 = .ok (.iload_n 2, 1) := by decide +kernel
theorem dX7_earliestArrival_44 : decode cX7_earliestArrival 44 = .ok (.invokestatic 34, 3) := by decide +kernel
theorem dX7_earliestArrival_47 : decode cX7_earliestArrival 47 = .ok (.invokevirtual 45, 3) := by decide +kernel
theorem dX7_earliestArrival_50 : decode cX7_earliestArrival 50 = .ok (.ifCond .eq 6, 3) := by decide +kernel
theorem dX7_earliestArrival_53 : decode cX7_earliestArrival 53 = .ok (.iload 4, 2) := by decide +kernel
theorem dX7_earliestArrival_55 : decode cX7_earliestArrival 55 = .ok (.ireturn, 1) := by decide +kernel
theorem dX7_earliestArrival_56 : decode cX7_earliestArrival 56 = .ok (.iconst 0, 1) := by decide +kernel
theorem dX7_earliestArrival_57 : decode cX7_earliestArrival 57 = .ok (.istore 5, 2) := by decide +kernel
theorem dX7_earliestArrival_59 : decode cX7_earliestArrival 59 = .ok (.iload 5, 2) := by decide +kernel
theorem dX7_earliestArrival_61 : decode cX7_earliestArrival 61 = .ok (.bipush 108, 2) := by decide +kernel
theorem dX7_earliestArrival_63 : decode cX7_earliestArrival 63 = .ok (.if_icmp .ge 31, 3) := by decide +kernel
theorem dX7_earliestArrival_66 : decode cX7_earliestArrival 66 = .ok (.aload_n 0, 1) := by decide +kernel
theorem dX7_earliestArrival_67 : decode cX7_earliestArrival 67 = .ok (.iload 4, 2) := by decide +kernel
theorem dX7_earliestArrival_69 : decode cX7_earliestArrival 69 = .ok (.iload 5, 2) := by decide +kernel
theorem dX7_earliestArrival_71 : decode cX7_earliestArrival 71 = .ok (.invokestatic 34, 3) := by decide +kernel
theorem dX7_earliestArrival_74 : decode cX7_earliestArrival 74 = .ok (.invokevirtual 45, 3) := by decide +kernel
theorem dX7_earliestArrival_77 : decode cX7_earliestArrival 77 = .ok (.ifCond .eq 11, 3) := by decide +kernel
theorem dX7_earliestArrival_80 : decode cX7_earliestArrival 80 = .ok (.aload_n 0, 1) := by decide +kernel
theorem dX7_earliestArrival_81 : decode cX7_earliestArrival 81 = .ok (.iload 4, 2) := by decide +kernel
theorem dX7_earliestArrival_83 : decode cX7_earliestArrival 83 = .ok (.iload 5, 2) := by decide +kernel
theorem dX7_earliestArrival_85 : decode cX7_earliestArrival 85 = .ok (.invokevirtual 49, 3) := by decide +kernel
theorem dX7_earliestArrival_88 : decode cX7_earliestArrival 88 = .ok (.iinc 5 1, 3) := by decide +kernel
theorem dX7_earliestArrival_91 : decode cX7_earliestArrival 91 = .ok (.goto (-32), 3) := by decide +kernel
theorem dX7_earliestArrival_94 : decode cX7_earliestArrival 94 = .ok (.iinc 4 1, 3) := by decide +kernel
theorem dX7_earliestArrival_97 : decode cX7_earliestArrival 97 = .ok (.goto (-70), 3) := by decide +kernel
theorem dX7_earliestArrival_100 : decode cX7_earliestArrival 100 = .ok (.iconst (-1), 1) := by decide +kernel
theorem dX7_earliestArrival_101 : decode cX7_earliestArrival 101 = .ok (.ireturn, 1) := by decide +kernel
theorem dX7_prune_0 : decode cX7_prune 0 = .ok (.bipush 60, 2) := by decide +kernel
theorem dX7_prune_2 : decode cX7_prune 2 = .ok (.istore_n 3, 1) := by decide +kernel
theorem dX7_prune_3 : decode cX7_prune 3 = .ok (.iload_n 3, 1) := by decide +kernel
theorem dX7_prune_4 : decode cX7_prune 4 = .ok (.ifCond .lt 88, 3) := by decide +kernel
theorem dX7_prune_7 : decode cX7_prune 7 = .ok (.iconst 0, 1) := by decide +kernel
theorem dX7_prune_8 : decode cX7_prune 8 = .ok (.istore 4, 2) := by decide +kernel
theorem dX7_prune_10 : decode cX7_prune 10 = .ok (.iload 4, 2) := by decide +kernel
theorem dX7_prune_12 : decode cX7_prune 12 = .ok (.bipush 108, 2) := by decide +kernel
theorem dX7_prune_14 : decode cX7_prune 14 = .ok (.if_icmp .ge 72, 3) := by decide +kernel
theorem dX7_prune_17 : decode cX7_prune 17 = .ok (.iload_n 3, 1) := by decide +kernel
theorem dX7_prune_18 : decode cX7_prune 18 = .ok (.iload 4, 2) := by decide +kernel
theorem dX7_prune_20 : decode cX7_prune 20 = .ok (.invokestatic 34, 3) := by decide +kernel
theorem dX7_prune_23 : decode cX7_prune 23 = .ok (.istore 5, 2) := by decide +kernel
theorem dX7_prune_25 : decode cX7_prune 25 = .ok (.iload_n 3, 1) := by decide +kernel
theorem dX7_prune_26 : decode cX7_prune 26 = .ok (.iload_n 1, 1) := by decide +kernel
theorem dX7_prune_27 : decode cX7_prune 27 = .ok (.if_icmp .ne 13, 3) := by decide +kernel
theorem dX7_prune_30 : decode cX7_prune 30 = .ok (.iload 4, 2) := by decide +kernel
theorem dX7_prune_32 : decode cX7_prune 32 = .ok (.iload_n 2, 1) := by decide +kernel
theorem dX7_prune_33 : decode cX7_prune 33 = .ok (.if_icmp .ne 7, 3) := by decide +kernel
theorem dX7_prune_36 : decode cX7_prune 36 = .ok (.iconst 1, 1) := by decide +kernel
theorem dX7_prune_37 : decode cX7_prune 37 = .ok (.goto 4, 3) := by decide +kernel
theorem dX7_prune_40 : decode cX7_prune 40 = .ok (.iconst 0, 1) := by decide +kernel
theorem dX7_prune_41 : decode cX7_prune 41 = .ok (.istore 6, 2) := by decide +kernel
theorem dX7_prune_43 : decode cX7_prune 43 = .ok (.aload_n 0, 1) := by decide +kernel
theorem dX7_prune_44 : decode cX7_prune 44 = .ok (.iload 5, 2) := by decide +kernel
theorem dX7_prune_46 : decode cX7_prune 46 = .ok (.invokevirtual 45, 3) := by decide +kernel
theorem dX7_prune_49 : decode cX7_prune 49 = .ok (.ifCond .eq 31, 3) := by decide +kernel
theorem dX7_prune_52 : decode cX7_prune 52 = .ok (.iload 6, 2) := by decide +kernel
theorem dX7_prune_54 : decode cX7_prune 54 = .ok (.ifCond .ne 26, 3) := by decide +kernel
theorem dX7_prune_57 : decode cX7_prune 57 = .ok (.iload_n 3, 1) := by decide +kernel
theorem dX7_prune_58 : decode cX7_prune 58 = .ok (.iload_n 1, 1) := by decide +kernel
theorem dX7_prune_59 : decode cX7_prune 59 = .ok (.if_icmp .ge 14, 3) := by decide +kernel
theorem dX7_prune_62 : decode cX7_prune 62 = .ok (.aload_n 0, 1) := by decide +kernel
theorem dX7_prune_63 : decode cX7_prune 63 = .ok (.iload_n 3, 1) := by decide +kernel
theorem dX7_prune_64 : decode cX7_prune 64 = .ok (.iload 4, 2) := by decide +kernel
theorem dX7_prune_66 : decode cX7_prune 66 = .ok (.invokevirtual 52, 3) := by decide +kernel
theorem dX7_prune_69 : decode cX7_prune 69 = .ok (.iconst (-1), 1) := by decide +kernel
theorem dX7_prune_70 : decode cX7_prune 70 = .ok (.if_icmp .ne 10, 3) := by decide +kernel
theorem dX7_prune_73 : decode cX7_prune 73 = .ok (.aload_n 0, 1) := by decide +kernel
theorem dX7_prune_74 : decode cX7_prune 74 = .ok (.iload 5, 2) := by decide +kernel
theorem dX7_prune_76 : decode cX7_prune 76 = .ok (.iconst 0, 1) := by decide +kernel
theorem dX7_prune_77 : decode cX7_prune 77 = .ok (.invokevirtual 38, 3) := by decide +kernel
theorem dX7_prune_80 : decode cX7_prune 80 = .ok (.iinc 4 1, 3) := by decide +kernel
theorem dX7_prune_83 : decode cX7_prune 83 = .ok (.goto (-73), 3) := by decide +kernel
theorem dX7_prune_86 : decode cX7_prune 86 = .ok (.iinc 3 (-1), 3) := by decide +kernel
theorem dX7_prune_89 : decode cX7_prune 89 = .ok (.goto (-86), 3) := by decide +kernel
theorem dX7_prune_92 : decode cX7_prune 92 = .ok (.return_, 1) := by decide +kernel
theorem dX7_follow_0 : decode cX7_follow 0 = .ok (.aload_n 1, 1) := by decide +kernel
theorem dX7_follow_1 : decode cX7_follow 1 = .ok (.iload_n 2, 1) := by decide +kernel
theorem dX7_follow_2 : decode cX7_follow 2 = .ok (.invokevirtual 55, 3) := by decide +kernel
theorem dX7_follow_5 : decode cX7_follow 5 = .ok (.iload_n 2, 1) := by decide +kernel
theorem dX7_follow_6 : decode cX7_follow 6 = .ok (.istore 4, 2) := by decide +kernel
theorem dX7_follow_8 : decode cX7_follow 8 = .ok (.iconst 0, 1) := by decide +kernel
theorem dX7_follow_9 : decode cX7_follow 9 = .ok (.istore 5, 2) := by decide +kernel
theorem dX7_follow_11 : decode cX7_follow 11 = .ok (.iload 5, 2) := by decide +kernel
theorem dX7_follow_13 : decode cX7_follow 13 = .ok (.bipush 60, 2) := by decide +kernel
theorem dX7_follow_15 : decode cX7_follow 15 = .ok (.if_icmp .ge 65, 3) := by decide +kernel
theorem dX7_follow_18 : decode cX7_follow 18 = .ok (.aload_n 1, 1) := by decide +kernel
theorem dX7_follow_19 : decode cX7_follow 19 = .ok (.getfield 59, 3) := by decide +kernel
theorem dX7_follow_22 : decode cX7_follow 22 = .ok (.iload_n 3, 1) := by decide +kernel
theorem dX7_follow_23 : decode cX7_follow 23 = .ok (.if_icmp .ge 57, 3) := by decide +kernel
theorem dX7_follow_26 : decode cX7_follow 26 = .ok (.aload_n 0, 1) := by decide +kernel
theorem dX7_follow_27 : decode cX7_follow 27 = .ok (.aload_n 1, 1) := by decide +kernel
theorem dX7_follow_28 : decode cX7_follow 28 = .ok (.getfield 59, 3) := by decide +kernel
theorem dX7_follow_31 : decode cX7_follow 31 = .ok (.iload 4, 2) := by decide +kernel
theorem dX7_follow_33 : decode cX7_follow 33 = .ok (.invokevirtual 52, 3) := by decide +kernel
theorem dX7_follow_36 : decode cX7_follow 36 = .ok (.istore 6, 2) := by decide +kernel
theorem dX7_follow_38 : decode cX7_follow 38 = .ok (.aload_n 0, 1) := by decide +kernel
theorem dX7_follow_39 : decode cX7_follow 39 = .ok (.getfield 18, 3) := by decide +kernel
theorem dX7_follow_42 : decode cX7_follow 42 = .ok (.iload 4, 2) := by decide +kernel
theorem dX7_follow_44 : decode cX7_follow 44 = .ok (.iload 6, 2) := by decide +kernel
theorem dX7_follow_46 : decode cX7_follow 46 = .ok (.invokevirtual 63, 3) := by decide +kernel
theorem dX7_follow_49 : decode cX7_follow 49 = .ok (.istore 7, 2) := by decide +kernel
theorem dX7_follow_51 : decode cX7_follow 51 = .ok (.aload_n 1, 1) := by decide +kernel
theorem dX7_follow_52 : decode cX7_follow 52 = .ok (.iload 6, 2) := by decide +kernel
theorem dX7_follow_54 : decode cX7_follow 54 = .ok (.aload_n 0, 1) := by decide +kernel
theorem dX7_follow_55 : decode cX7_follow 55 = .ok (.getfield 18, 3) := by decide +kernel
theorem dX7_follow_58 : decode cX7_follow 58 = .ok (.iload 4, 2) := by decide +kernel
theorem dX7_follow_60 : decode cX7_follow 60 = .ok (.iload 6, 2) := by decide +kernel
theorem dX7_follow_62 : decode cX7_follow 62 = .ok (.invokevirtual 68, 3) := by decide +kernel
theorem dX7_follow_65 : decode cX7_follow 65 = .ok (.iload 7, 2) := by decide +kernel
theorem dX7_follow_67 : decode cX7_follow 67 = .ok (.invokevirtual 71, 3) := by decide +kernel
theorem dX7_follow_70 : decode cX7_follow 70 = .ok (.iload 7, 2) := by decide +kernel
theorem dX7_follow_72 : decode cX7_follow 72 = .ok (.istore 4, 2) := by decide +kernel
theorem dX7_follow_74 : decode cX7_follow 74 = .ok (.iinc 5 1, 3) := by decide +kernel
theorem dX7_follow_77 : decode cX7_follow 77 = .ok (.goto (-66), 3) := by decide +kernel
theorem dX7_follow_80 : decode cX7_follow 80 = .ok (.return_, 1) := by decide +kernel
theorem dX7_freeFrom_0 : decode cX7_freeFrom 0 = .ok (.iconst 0, 1) := by decide +kernel
theorem dX7_freeFrom_1 : decode cX7_freeFrom 1 = .ok (.istore_n 2, 1) := by decide +kernel
theorem dX7_freeFrom_2 : decode cX7_freeFrom 2 = .ok (.iconst 0, 1) := by decide +kernel
theorem dX7_freeFrom_3 : decode cX7_freeFrom 3 = .ok (.istore_n 3, 1) := by decide +kernel
theorem dX7_freeFrom_4 : decode cX7_freeFrom 4 = .ok (.iload_n 3, 1) := by decide +kernel
theorem dX7_freeFrom_5 : decode cX7_freeFrom 5 = .ok (.bipush 60, 2) := by decide +kernel
theorem dX7_freeFrom_7 : decode cX7_freeFrom 7 = .ok (.if_icmp .gt 36, 3) := by decide +kernel
theorem dX7_freeFrom_10 : decode cX7_freeFrom 10 = .ok (.iload_n 3, 1) := by decide +kernel
theorem dX7_freeFrom_11 : decode cX7_freeFrom 11 = .ok (.iload_n 1, 1) := by decide +kernel
theorem dX7_freeFrom_12 : decode cX7_freeFrom 12 = .ok (.invokestatic 34, 3) := by decide +kernel
theorem dX7_freeFrom_15 : decode cX7_freeFrom 15 = .ok (.istore 4, 2) := by decide +kernel
theorem dX7_freeFrom_17 : decode cX7_freeFrom 17 = .ok (.iload 4, 2) := by decide +kernel
theorem dX7_freeFrom_19 : decode cX7_freeFrom 19 = .ok (.iconst (-1), 1) := by decide +kernel
theorem dX7_freeFrom_20 : decode cX7_freeFrom 20 = .ok (.if_icmp .eq 17, 3) := by decide +kernel
theorem dX7_freeFrom_23 : decode cX7_freeFrom 23 = .ok (.aload_n 0, 1) := by decide +kernel
theorem dX7_freeFrom_24 : decode cX7_freeFrom 24 = .ok (.getfield 9, 3) := by decide +kernel
theorem dX7_freeFrom_27 : decode cX7_freeFrom 27 = .ok (.iload 4, 2) := by decide +kernel
theorem dX7_freeFrom_29 : decode cX7_freeFrom 29 = .ok (.iaload, 1) := by decide +kernel
theorem dX7_freeFrom_30 : decode cX7_freeFrom 30 = .ok (.ifCond .eq 7, 3) := by decide +kernel
theorem dX7_freeFrom_33 : decode cX7_freeFrom 33 = .ok (.iload_n 3, 1) := by decide +kernel
theorem dX7_freeFrom_34 : decode cX7_freeFrom 34 = .ok (.iconst 1, 1) := by decide +kernel
theorem dX7_freeFrom_35 : decode cX7_freeFrom 35 = .ok (.iadd, 1) := by decide +kernel
theorem dX7_freeFrom_36 : decode cX7_freeFrom 36 = .ok (.istore_n 2, 1) := by decide +kernel
theorem dX7_freeFrom_37 : decode cX7_freeFrom 37 = .ok (.iinc 3 1, 3) := by decide +kernel
theorem dX7_freeFrom_40 : decode cX7_freeFrom 40 = .ok (.goto (-36), 3) := by decide +kernel
theorem dX7_freeFrom_43 : decode cX7_freeFrom 43 = .ok (.iload_n 2, 1) := by decide +kernel
theorem dX7_freeFrom_44 : decode cX7_freeFrom 44 = .ok (.ireturn, 1) := by decide +kernel
theorem dX7_spread_0 : decode cX7_spread 0 = .ok (.iconst 0, 1) := by decide +kernel
theorem dX7_spread_1 : decode cX7_spread 1 = .ok (.istore_n 3, 1) := by decide +kernel
theorem dX7_spread_2 : decode cX7_spread 2 = .ok (.iload_n 3, 1) := by decide +kernel
theorem dX7_spread_3 : decode cX7_spread 3 = .ok (.bipush 7, 2) := by decide +kernel
theorem dX7_spread_5 : decode cX7_spread 5 = .ok (.if_icmp .ge 21, 3) := by decide +kernel
theorem dX7_spread_8 : decode cX7_spread 8 = .ok (.aload_n 0, 1) := by decide +kernel
theorem dX7_spread_9 : decode cX7_spread 9 = .ok (.aload_n 0, 1) := by decide +kernel
theorem dX7_spread_10 : decode cX7_spread 10 = .ok (.iload_n 1, 1) := by decide +kernel
theorem dX7_spread_11 : decode cX7_spread 11 = .ok (.iload_n 2, 1) := by decide +kernel
theorem dX7_spread_12 : decode cX7_spread 12 = .ok (.iload_n 3, 1) := by decide +kernel
theorem dX7_spread_13 : decode cX7_spread 13 = .ok (.invokevirtual 75, 3) := by decide +kernel
theorem dX7_spread_16 : decode cX7_spread 16 = .ok (.iconst 1, 1) := by decide +kernel
theorem dX7_spread_17 : decode cX7_spread 17 = .ok (.invokevirtual 38, 3) := by decide +kernel
theorem dX7_spread_20 : decode cX7_spread 20 = .ok (.iinc 3 1, 3) := by decide +kernel
theorem dX7_spread_23 : decode cX7_spread 23 = .ok (.goto (-21), 3) := by decide +kernel
theorem dX7_spread_26 : decode cX7_spread 26 = .ok (.return_, 1) := by decide +kernel
theorem dX7_leastAction_0 : decode cX7_leastAction 0 = .ok (.iconst 0, 1) := by decide +kernel
theorem dX7_leastAction_1 : decode cX7_leastAction 1 = .ok (.istore_n 3, 1) := by decide +kernel
theorem dX7_leastAction_2 : decode cX7_leastAction 2 = .ok (.iload_n 3, 1) := by decide +kernel
theorem dX7_leastAction_3 : decode cX7_leastAction 3 = .ok (.bipush 7, 2) := by decide +kernel
theorem dX7_leastAction_5 : decode cX7_leastAction 5 = .ok (.if_icmp .ge 25, 3) := by decide +kernel
theorem dX7_leastAction_8 : decode cX7_leastAction 8 = .ok (.aload_n 0, 1) := by decide +kernel
theorem dX7_leastAction_9 : decode cX7_leastAction 9 = .ok (.aload_n 0, 1) := by decide +kernel
theorem dX7_leastAction_10 : decode cX7_leastAction 10 = .ok (.iload_n 1, 1) := by decide +kernel
theorem dX7_leastAction_11 : decode cX7_leastAction 11 = .ok (.iload_n 2, 1) := by decide +kernel
theorem dX7_leastAction_12 : decode cX7_leastAction 12 = .ok (.iload_n 3, 1) := by decide +kernel
theorem dX7_leastAction_13 : decode cX7_leastAction 13 = .ok (.invokevirtual 75, 3) := by decide +kernel
theorem dX7_leastAction_16 : decode cX7_leastAction 16 = .ok (.invokevirtual 45, 3) := by decide +kernel
theorem dX7_leastAction_19 : decode cX7_leastAction 19 = .ok (.ifCond .eq 5, 3) := by decide +kernel
theorem dX7_leastAction_22 : decode cX7_leastAction 22 = .ok (.iload_n 3, 1) := by decide +kernel
theorem dX7_leastAction_23 : decode cX7_leastAction 23 = .ok (.ireturn, 1) := by decide +kernel
theorem dX7_leastAction_24 : decode cX7_leastAction 24 = .ok (.iinc 3 1, 3) := by decide +kernel
theorem dX7_leastAction_27 : decode cX7_leastAction 27 = .ok (.goto (-25), 3) := by decide +kernel
theorem dX7_leastAction_30 : decode cX7_leastAction 30 = .ok (.iconst (-1), 1) := by decide +kernel
theorem dX7_leastAction_31 : decode cX7_leastAction 31 = .ok (.ireturn, 1) := by decide +kernel
theorem dX7_landing_0 : decode cX7_landing 0 = .ok (.aload_n 0, 1) := by decide +kernel
theorem dX7_landing_1 : decode cX7_landing 1 = .ok (.getfield 18, 3) := by decide +kernel
theorem dX7_landing_4 : decode cX7_landing 4 = .ok (.iload_n 2, 1) := by decide +kernel
theorem dX7_landing_5 : decode cX7_landing 5 = .ok (.iload_n 3, 1) := by decide +kernel
theorem dX7_landing_6 : decode cX7_landing 6 = .ok (.invokevirtual 63, 3) := by decide +kernel
theorem dX7_landing_9 : decode cX7_landing 9 = .ok (.istore 4, 2) := by decide +kernel
theorem dX7_landing_11 : decode cX7_landing 11 = .ok (.iload 4, 2) := by decide +kernel
theorem dX7_landing_13 : decode cX7_landing 13 = .ok (.iconst (-1), 1) := by decide +kernel
theorem dX7_landing_14 : decode cX7_landing 14 = .ok (.if_icmp .ne 5, 3) := by decide +kernel
theorem dX7_landing_17 : decode cX7_landing 17 = .ok (.iconst (-1), 1) := by decide +kernel
theorem dX7_landing_18 : decode cX7_landing 18 = .ok (.ireturn, 1) := by decide +kernel
theorem dX7_landing_19 : decode cX7_landing 19 = .ok (.aload_n 0, 1) := by decide +kernel
theorem dX7_landing_20 : decode cX7_landing 20 = .ok (.getfield 18, 3) := by decide +kernel
theorem dX7_landing_23 : decode cX7_landing 23 = .ok (.iload_n 2, 1) := by decide +kernel
theorem dX7_landing_24 : decode cX7_landing 24 = .ok (.iload_n 3, 1) := by decide +kernel
theorem dX7_landing_25 : decode cX7_landing 25 = .ok (.invokevirtual 68, 3) := by decide +kernel
theorem dX7_landing_28 : decode cX7_landing 28 = .ok (.iconst 1, 1) := by decide +kernel
theorem dX7_landing_29 : decode cX7_landing 29 = .ok (.if_icmp .ne 27, 3) := by decide +kernel
theorem dX7_landing_32 : decode cX7_landing 32 = .ok (.aload_n 0, 1) := by decide +kernel
theorem dX7_landing_33 : decode cX7_landing 33 = .ok (.iload_n 1, 1) := by decide +kernel
theorem dX7_landing_34 : decode cX7_landing 34 = .ok (.iload_n 2, 1) := by decide +kernel
theorem dX7_landing_35 : decode cX7_landing 35 = .ok (.iload 4, 2) := by decide +kernel
theorem dX7_landing_37 : decode cX7_landing 37 = .ok (.invokevirtual 79, 3) := by decide +kernel
theorem dX7_landing_40 : decode cX7_landing 40 = .ok (.ifCond .eq 14, 3) := by decide +kernel
theorem dX7_landing_43 : decode cX7_landing 43 = .ok (.iload_n 1, 1) := by decide +kernel
theorem dX7_landing_44 : decode cX7_landing 44 = .ok (.iconst 1, 1) := by decide +kernel
theorem dX7_landing_45 : decode cX7_landing 45 = .ok (.iadd, 1) := by decide +kernel
theorem dX7_landing_46 : decode cX7_landing 46 = .ok (.iload 4, 2) := by decide +kernel
theorem dX7_landing_48 : decode cX7_landing 48 = .ok (.invokestatic 34, 3) := by decide +kernel
theorem dX7_landing_51 : decode cX7_landing 51 = .ok (.goto 4, 3) := by decide +kernel
theorem dX7_landing_54 : decode cX7_landing 54 = .ok (.iconst (-1), 1) := by decide +kernel
theorem dX7_landing_55 : decode cX7_landing 55 = .ok (.ireturn, 1) := by decide +kernel
theorem dX7_landing_56 : decode cX7_landing 56 = .ok (.aload_n 0, 1) := by decide +kernel
theorem dX7_landing_57 : decode cX7_landing 57 = .ok (.iload_n 1, 1) := by decide +kernel
theorem dX7_landing_58 : decode cX7_landing 58 = .ok (.iload_n 2, 1) := by decide +kernel
theorem dX7_landing_59 : decode cX7_landing 59 = .ok (.iload_n 2, 1) := by decide +kernel
theorem dX7_landing_60 : decode cX7_landing 60 = .ok (.invokevirtual 79, 3) := by decide +kernel
theorem dX7_landing_63 : decode cX7_landing 63 = .ok (.ifCond .eq 20, 3) := by decide +kernel
theorem dX7_landing_66 : decode cX7_landing 66 = .ok (.aload_n 0, 1) := by decide +kernel
theorem dX7_landing_67 : decode cX7_landing 67 = .ok (.iload_n 1, 1) := by decide +kernel
theorem dX7_landing_68 : decode cX7_landing 68 = .ok (.iconst 1, 1) := by decide +kernel
theorem dX7_landing_69 : decode cX7_landing 69 = .ok (.iadd, 1) := by decide +kernel
theorem dX7_landing_70 : decode cX7_landing 70 = .ok (.iload_n 2, 1) := by decide +kernel
theorem dX7_landing_71 : decode cX7_landing 71 = .ok (.iload 4, 2) := by decide +kernel
theorem dX7_landing_73 : decode cX7_landing 73 = .ok (.invokevirtual 79, 3) := by decide +kernel
theorem dX7_landing_76 : decode cX7_landing 76 = .ok (.ifCond .eq 7, 3) := by decide +kernel
theorem dX7_landing_79 : decode cX7_landing 79 = .ok (.iconst 1, 1) := by decide +kernel
theorem dX7_landing_80 : decode cX7_landing 80 = .ok (.goto 4, 3) := by decide +kernel
theorem dX7_landing_83 : decode cX7_landing 83 = .ok (.iconst 0, 1) := by decide +kernel
theorem dX7_landing_84 : decode cX7_landing 84 = .ok (.istore 5, 2) := by decide +kernel
theorem dX7_landing_86 : decode cX7_landing 86 = .ok (.iload 5, 2) := by decide +kernel
theorem dX7_landing_88 : decode cX7_landing 88 = .ok (.ifCond .eq 14, 3) := by decide +kernel
theorem dX7_landing_91 : decode cX7_landing 91 = .ok (.iload_n 1, 1) := by decide +kernel
theorem dX7_landing_92 : decode cX7_landing 92 = .ok (.iconst 2, 1) := by decide +kernel
theorem dX7_landing_93 : decode cX7_landing 93 = .ok (.iadd, 1) := by decide +kernel
theorem dX7_landing_94 : decode cX7_landing 94 = .ok (.iload 4, 2) := by decide +kernel
theorem dX7_landing_96 : decode cX7_landing 96 = .ok (.invokestatic 34, 3) := by decide +kernel
theorem dX7_landing_99 : decode cX7_landing 99 = .ok (.goto 4, 3) := by decide +kernel
theorem dX7_landing_102 : decode cX7_landing 102 = .ok (.iconst (-1), 1) := by decide +kernel
theorem dX7_landing_103 : decode cX7_landing 103 = .ok (.ireturn, 1) := by decide +kernel
theorem dX7_canStep_0 : decode cX7_canStep 0 = .ok (.iload_n 1, 1) := by decide +kernel
theorem dX7_canStep_1 : decode cX7_canStep 1 = .ok (.ifCond .lt 23, 3) := by decide +kernel
theorem dX7_canStep_4 : decode cX7_canStep 4 = .ok (.iload_n 1, 1) := by decide +kernel
theorem dX7_canStep_5 : decode cX7_canStep 5 = .ok (.bipush 60, 2) := by decide +kernel
theorem dX7_canStep_7 : decode cX7_canStep 7 = .ok (.if_icmp .ge 17, 3) := by decide +kernel
theorem dX7_canStep_10 : decode cX7_canStep 10 = .ok (.iload_n 2, 1) := by decide +kernel
theorem dX7_canStep_11 : decode cX7_canStep 11 = .ok (.invokestatic 83, 3) := by decide +kernel
theorem dX7_canStep_14 : decode cX7_canStep 14 = .ok (.ifCond .eq 10, 3) := by decide +kernel
theorem dX7_canStep_17 : decode cX7_canStep 17 = .ok (.iload_n 3, 1) := by decide +kernel
theorem dX7_canStep_18 : decode cX7_canStep 18 = .ok (.invokestatic 83, 3) := by decide +kernel
theorem dX7_canStep_21 : decode cX7_canStep 21 = .ok (.ifCond .ne 5, 3) := by decide +kernel
theorem dX7_canStep_24 : decode cX7_canStep 24 = .ok (.iconst 0, 1) := by decide +kernel
theorem dX7_canStep_25 : decode cX7_canStep 25 = .ok (.ireturn, 1) := by decide +kernel
theorem dX7_canStep_26 : decode cX7_canStep 26 = .ok (.iload_n 1, 1) := by decide +kernel
theorem dX7_canStep_27 : decode cX7_canStep 27 = .ok (.bipush 108, 2) := by decide +kernel
theorem dX7_canStep_29 : decode cX7_canStep 29 = .ok (.imul, 1) := by decide +kernel
theorem dX7_canStep_30 : decode cX7_canStep 30 = .ok (.istore 4, 2) := by decide +kernel
theorem dX7_canStep_32 : decode cX7_canStep 32 = .ok (.iload 4, 2) := by decide +kernel
theorem dX7_canStep_34 : decode cX7_canStep 34 = .ok (.bipush 108, 2) := by decide +kernel
theorem dX7_canStep_36 : decode cX7_canStep 36 = .ok (.iadd, 1) := by decide +kernel
theorem dX7_canStep_37 : decode cX7_canStep 37 = .ok (.istore 5, 2) := by decide +kernel
theorem dX7_canStep_39 : decode cX7_canStep 39 = .ok (.aload_n 0, 1) := by decide +kernel
theorem dX7_canStep_40 : decode cX7_canStep 40 = .ok (.getfield 9, 3) := by decide +kernel
theorem dX7_canStep_43 : decode cX7_canStep 43 = .ok (.iload 5, 2) := by decide +kernel
theorem dX7_canStep_45 : decode cX7_canStep 45 = .ok (.iload_n 3, 1) := by decide +kernel
theorem dX7_canStep_46 : decode cX7_canStep 46 = .ok (.iadd, 1) := by decide +kernel
theorem dX7_canStep_47 : decode cX7_canStep 47 = .ok (.iaload, 1) := by decide +kernel
theorem dX7_canStep_48 : decode cX7_canStep 48 = .ok (.ifCond .eq 5, 3) := by decide +kernel
theorem dX7_canStep_51 : decode cX7_canStep 51 = .ok (.iconst 0, 1) := by decide +kernel
theorem dX7_canStep_52 : decode cX7_canStep 52 = .ok (.ireturn, 1) := by decide +kernel
theorem dX7_canStep_53 : decode cX7_canStep 53 = .ok (.aload_n 0, 1) := by decide +kernel
theorem dX7_canStep_54 : decode cX7_canStep 54 = .ok (.getfield 9, 3) := by decide +kernel
theorem dX7_canStep_57 : decode cX7_canStep 57 = .ok (.iload 4, 2) := by decide +kernel
theorem dX7_canStep_59 : decode cX7_canStep 59 = .ok (.iload_n 3, 1) := by decide +kernel
theorem dX7_canStep_60 : decode cX7_canStep 60 = .ok (.iadd, 1) := by decide +kernel
theorem dX7_canStep_61 : decode cX7_canStep 61 = .ok (.iaload, 1) := by decide +kernel
theorem dX7_canStep_62 : decode cX7_canStep 62 = .ok (.istore 6, 2) := by decide +kernel
theorem dX7_canStep_64 : decode cX7_canStep 64 = .ok (.iload 6, 2) := by decide +kernel
theorem dX7_canStep_66 : decode cX7_canStep 66 = .ok (.ifCond .eq 17, 3) := by decide +kernel
theorem dX7_canStep_69 : decode cX7_canStep 69 = .ok (.aload_n 0, 1) := by decide +kernel
theorem dX7_canStep_70 : decode cX7_canStep 70 = .ok (.getfield 9, 3) := by decide +kernel
theorem dX7_canStep_73 : decode cX7_canStep 73 = .ok (.iload 5, 2) := by decide +kernel
theorem dX7_canStep_75 : decode cX7_canStep 75 = .ok (.iload_n 2, 1) := by decide +kernel
theorem dX7_canStep_76 : decode cX7_canStep 76 = .ok (.iadd, 1) := by decide +kernel
theorem dX7_canStep_77 : decode cX7_canStep 77 = .ok (.iaload, 1) := by decide +kernel
theorem dX7_canStep_78 : decode cX7_canStep 78 = .ok (.iload 6, 2) := by decide +kernel
theorem dX7_canStep_80 : decode cX7_canStep 80 = .ok (.if_icmp .eq 7, 3) := by decide +kernel
theorem dX7_canStep_83 : decode cX7_canStep 83 = .ok (.iconst 1, 1) := by decide +kernel
theorem dX7_canStep_84 : decode cX7_canStep 84 = .ok (.goto 4, 3) := by decide +kernel
theorem dX7_canStep_87 : decode cX7_canStep 87 = .ok (.iconst 0, 1) := by decide +kernel
theorem dX7_canStep_88 : decode cX7_canStep 88 = .ok (.ireturn, 1) := by decide +kernel
theorem dX7_isUsable_0 : decode cX7_isUsable 0 = .ok (.iload_n 1, 1) := by decide +kernel
theorem dX7_isUsable_1 : decode cX7_isUsable 1 = .ok (.ifCond .lt 23, 3) := by decide +kernel
theorem dX7_isUsable_4 : decode cX7_isUsable 4 = .ok (.iload_n 1, 1) := by decide +kernel
theorem dX7_isUsable_5 : decode cX7_isUsable 5 = .ok (.sipush 6588, 3) := by decide +kernel
theorem dX7_isUsable_8 : decode cX7_isUsable 8 = .ok (.if_icmp .ge 16, 3) := by decide +kernel
theorem dX7_isUsable_11 : decode cX7_isUsable 11 = .ok (.aload_n 0, 1) := by decide +kernel
theorem dX7_isUsable_12 : decode cX7_isUsable 12 = .ok (.getfield 15, 3) := by decide +kernel
theorem dX7_isUsable_15 : decode cX7_isUsable 15 = .ok (.iload_n 1, 1) := by decide +kernel
theorem dX7_isUsable_16 : decode cX7_isUsable 16 = .ok (.iaload, 1) := by decide +kernel
theorem dX7_isUsable_17 : decode cX7_isUsable 17 = .ok (.ifCond .eq 7, 3) := by decide +kernel
theorem dX7_isUsable_20 : decode cX7_isUsable 20 = .ok (.iconst 1, 1) := by decide +kernel
theorem dX7_isUsable_21 : decode cX7_isUsable 21 = .ok (.goto 4, 3) := by decide +kernel
theorem dX7_isUsable_24 : decode cX7_isUsable 24 = .ok (.iconst 0, 1) := by decide +kernel
theorem dX7_isUsable_25 : decode cX7_isUsable 25 = .ok (.ireturn, 1) := by decide +kernel
theorem dX7_mark_0 : decode cX7_mark 0 = .ok (.iload_n 1, 1) := by decide +kernel
theorem dX7_mark_1 : decode cX7_mark 1 = .ok (.ifCond .lt 17, 3) := by decide +kernel
theorem dX7_mark_4 : decode cX7_mark 4 = .ok (.iload_n 1, 1) := by decide +kernel
theorem dX7_mark_5 : decode cX7_mark 5 = .ok (.sipush 6588, 3) := by decide +kernel
theorem dX7_mark_8 : decode cX7_mark 8 = .ok (.if_icmp .ge 10, 3) := by decide +kernel
theorem dX7_mark_11 : decode cX7_mark 11 = .ok (.aload_n 0, 1) := by decide +kernel
theorem dX7_mark_12 : decode cX7_mark 12 = .ok (.getfield 15, 3) := by decide +kernel
theorem dX7_mark_15 : decode cX7_mark 15 = .ok (.iload_n 1, 1) := by decide +kernel
theorem dX7_mark_16 : decode cX7_mark 16 = .ok (.iload_n 2, 1) := by decide +kernel
theorem dX7_mark_17 : decode cX7_mark 17 = .ok (.iastore, 1) := by decide +kernel
theorem dX7_mark_18 : decode cX7_mark 18 = .ok (.return_, 1) := by decide +kernel
theorem dX7_spot_0 : decode cX7_spot 0 = .ok (.iload_n 0, 1) := by decide +kernel
theorem dX7_spot_1 : decode cX7_spot 1 = .ok (.ifCond .lt 25, 3) := by decide +kernel
theorem dX7_spot_4 : decode cX7_spot 4 = .ok (.iload_n 0, 1) := by decide +kernel
theorem dX7_spot_5 : decode cX7_spot 5 = .ok (.bipush 61, 2) := by decide +kernel
theorem dX7_spot_7 : decode cX7_spot 7 = .ok (.if_icmp .ge 19, 3) := by decide +kernel
theorem dX7_spot_10 : decode cX7_spot 10 = .ok (.iload_n 1, 1) := by decide +kernel
theorem dX7_spot_11 : decode cX7_spot 11 = .ok (.invokestatic 83, 3) := by decide +kernel
theorem dX7_spot_14 : decode cX7_spot 14 = .ok (.ifCond .eq 12, 3) := by decide +kernel
theorem dX7_spot_17 : decode cX7_spot 17 = .ok (.iload_n 0, 1) := by decide +kernel
theorem dX7_spot_18 : decode cX7_spot 18 = .ok (.bipush 108, 2) := by decide +kernel
theorem dX7_spot_20 : decode cX7_spot 20 = .ok (.imul, 1) := by decide +kernel
theorem dX7_spot_21 : decode cX7_spot 21 = .ok (.iload_n 1, 1) := by decide +kernel
theorem dX7_spot_22 : decode cX7_spot 22 = .ok (.iadd, 1) := by decide +kernel
theorem dX7_spot_23 : decode cX7_spot 23 = .ok (.goto 4, 3) := by decide +kernel
theorem dX7_spot_26 : decode cX7_spot 26 = .ok (.iconst (-1), 1) := by decide +kernel
theorem dX7_spot_27 : decode cX7_spot 27 = .ok (.ireturn, 1) := by decide +kernel
theorem dX8_init_0 : decode cX8_init 0 = .ok (.aload_n 0, 1) := by decide +kernel
theorem dX8_init_1 : decode cX8_init 1 = .ok (.invokespecial 3, 3) := by decide +kernel
theorem dX8_init_4 : decode cX8_init 4 = .ok (.aload_n 0, 1) := by decide +kernel
theorem dX8_init_5 : decode cX8_init 5 = .ok (.iconst 3, 1) := by decide +kernel
theorem dX8_init_6 : decode cX8_init 6 = .ok (.newarray .int, 2) := by decide +kernel
theorem dX8_init_8 : decode cX8_init 8 = .ok (.putfield 9, 3) := by decide +kernel
theorem dX8_init_11 : decode cX8_init 11 = .ok (.aload_n 0, 1) := by decide +kernel
theorem dX8_init_12 : decode cX8_init 12 = .ok (.bipush 108, 2) := by decide +kernel
theorem dX8_init_14 : decode cX8_init 14 = .ok (.newarray .int, 2) := by decide +kernel
theorem dX8_init_16 : decode cX8_init 16 = .ok (.putfield 15, 3) := by decide +kernel
theorem dX8_init_19 : decode cX8_init 19 = .ok (.aload_n 0, 1) := by decide +kernel
theorem dX8_init_20 : decode cX8_init 20 = .ok (.new 18, 3) := by decide +kernel
theorem dX8_init_23 : decode cX8_init 23 = .ok (.dup, 1) := by decide +kernel
theorem dX8_init_24 : decode cX8_init 24 = .ok (.invokespecial 20, 3) := by decide +kernel
theorem dX8_init_27 : decode cX8_init 27 = .ok (.putfield 21, 3) := by decide +kernel
theorem dX8_init_30 : decode cX8_init 30 = .ok (.aload_n 0, 1) := by decide +kernel
theorem dX8_init_31 : decode cX8_init 31 = .ok (.new 18, 3) := by decide +kernel
theorem dX8_init_34 : decode cX8_init 34 = .ok (.dup, 1) := by decide +kernel
theorem dX8_init_35 : decode cX8_init 35 = .ok (.invokespecial 20, 3) := by decide +kernel
theorem dX8_init_38 : decode cX8_init 38 = .ok (.putfield 25, 3) := by decide +kernel
theorem dX8_init_41 : decode cX8_init 41 = .ok (.return_, 1) := by decide +kernel
theorem dX8_hasObstacleAt_0 : decode cX8_hasObstacleAt 0 = .ok (.iload_n 1, 1) := by decide +kernel
theorem dX8_hasObstacleAt_1 : decode cX8_hasObstacleAt 1 = .ok (.invokestatic 28, 3) := by decide +kernel
theorem dX8_hasObstacleAt_4 : decode cX8_hasObstacleAt 4 = .ok (.ifCond .eq 16, 3) := by decide +kernel
theorem dX8_hasObstacleAt_7 : decode cX8_hasObstacleAt 7 = .ok (.aload_n 0, 1) := by decide +kernel
theorem dX8_hasObstacleAt_8 : decode cX8_hasObstacleAt 8 = .ok (.getfield 15, 3) := by decide +kernel
theorem dX8_hasObstacleAt_11 : decode cX8_hasObstacleAt 11 = .ok (.iload_n 1, 1) := by decide +kernel
theorem dX8_hasObstacleAt_12 : decode cX8_hasObstacleAt 12 = .ok (.iaload, 1) := by decide +kernel
theorem dX8_hasObstacleAt_13 : decode cX8_hasObstacleAt 13 = .ok (.ifCond .eq 7, 3) := by decide +kernel
theorem dX8_hasObstacleAt_16 : decode cX8_hasObstacleAt 16 = .ok (.iconst 1, 1) := by decide +kernel
theorem dX8_hasObstacleAt_17 : decode cX8_hasObstacleAt 17 = .ok (.goto 4, 3) := by decide +kernel
theorem dX8_hasObstacleAt_20 : decode cX8_hasObstacleAt 20 = .ok (.iconst 0, 1) := by decide +kernel
theorem dX8_hasObstacleAt_21 : decode cX8_hasObstacleAt 21 = .ok (.ireturn, 1) := by decide +kernel
theorem dX8_obstacleCount_0 : decode cX8_obstacleCount 0 = .ok (.iconst 0, 1) := by decide +kernel
theorem dX8_obstacleCount_1 : decode cX8_obstacleCount 1 = .ok (.istore_n 1, 1) := by decide +kernel
theorem dX8_obstacleCount_2 : decode cX8_obstacleCount 2 = .ok (.iconst 0, 1) := by decide +kernel
theorem dX8_obstacleCount_3 : decode cX8_obstacleCount 3 = .ok (.istore_n 2, 1) := by decide +kernel
theorem dX8_obstacleCount_4 : decode cX8_obstacleCount 4 = .ok (.iload_n 2, 1) := by decide +kernel
theorem dX8_obstacleCount_5 : decode cX8_obstacleCount 5 = .ok (.bipush 108, 2) := by decide +kernel
theorem dX8_obstacleCount_7 : decode cX8_obstacleCount 7 = .ok (.if_icmp .ge 18, 3) := by decide +kernel
theorem dX8_obstacleCount_10 : decode cX8_obstacleCount 10 = .ok (.iload_n 1, 1) := by decide +kernel
theorem dX8_obstacleCount_11 : decode cX8_obstacleCount 11 = .ok (.aload_n 0, 1) := by decide +kernel
theorem dX8_obstacleCount_12 : decode cX8_obstacleCount 12 = .ok (.getfield 15, 3) := by decide +kernel
theorem dX8_obstacleCount_15 : decode cX8_obstacleCount 15 = .ok (.iload_n 2, 1) := by decide +kernel
theorem dX8_obstacleCount_16 : decode cX8_obstacleCount 16 = .ok (.iaload, 1) := by decide +kernel
theorem dX8_obstacleCount_17 : decode cX8_obstacleCount 17 = .ok (.iadd, 1) := by decide +kernel
theorem dX8_obstacleCount_18 : decode cX8_obstacleCount 18 = .ok (.istore_n 1, 1) := by decide +kernel
theorem dX8_obstacleCount_19 : decode cX8_obstacleCount 19 = .ok (.iinc 2 1, 3) := by decide +kernel
theorem dX8_obstacleCount_22 : decode cX8_obstacleCount 22 = .ok (.goto (-18), 3) := by decide +kernel
theorem dX8_obstacleCount_25 : decode cX8_obstacleCount 25 = .ok (.iload_n 1, 1) := by decide +kernel
theorem dX8_obstacleCount_26 : decode cX8_obstacleCount 26 = .ok (.ireturn, 1) := by decide +kernel
theorem dX8_dronesAtSlots_0 : decode cX8_dronesAtSlots 0 = .ok (.iconst 0, 1) := by decide +kernel
theorem dX8_dronesAtSlots_1 : decode cX8_dronesAtSlots 1 = .ok (.istore_n 1, 1) := by decide +kernel
theorem dX8_dronesAtSlots_2 : decode cX8_dronesAtSlots 2 = .ok (.iconst 0, 1) := by decide +kernel
theorem dX8_dronesAtSlots_3 : decode cX8_dronesAtSlots 3 = .ok (.istore_n 2, 1) := by decide +kernel
theorem dX8_dronesAtSlots_4 : decode cX8_dronesAtSlots 4 = .ok (.iload_n 2, 1) := by decide +kernel
theorem dX8_dronesAtSlots_5 : decode cX8_dronesAtSlots 5 = .ok (.aload_n 0, 1) := by decide +kernel
theorem dX8_dronesAtSlots_6 : decode cX8_dronesAtSlots 6 = .ok (.getfield 21, 3) := by decide +kernel
theorem dX8_dronesAtSlots_9 : decode cX8_dronesAtSlots 9 = .ok (.getfield 32, 3) := by decide +kernel
theorem dX8_dronesAtSlots_12 : decode cX8_dronesAtSlots 12 = .ok (.if_icmp .ge 31, 3) := by decide +kernel
theorem dX8_dronesAtSlots_15 : decode cX8_dronesAtSlots 15 = .ok (.aload_n 0, 1) := by decide +kernel
theorem dX8_dronesAtSlots_16 : decode cX8_dronesAtSlots 16 = .ok (.getfield 25, 3) := by decide +kernel
theorem dX8_dronesAtSlots_19 : decode cX8_dronesAtSlots 19 = .ok (.aload_n 0, 1) := by decide +kernel
theorem dX8_dronesAtSlots_20 : decode cX8_dronesAtSlots 20 = .ok (.getfield 21, 3) := by decide +kernel
theorem dX8_dronesAtSlots_23 : decode cX8_dronesAtSlots 23 = .ok (.iload_n 2, 1) := by decide +kernel
theorem dX8_dronesAtSlots_24 : decode cX8_dronesAtSlots 24 = .ok (.invokevirtual 36, 3) := by decide +kernel
theorem dX8_dronesAtSlots_27 : decode cX8_dronesAtSlots 27 = .ok (.invokevirtual 40, 3) := by decide +kernel
theorem dX8_dronesAtSlots_30 : decode cX8_dronesAtSlots 30 = .ok (.iconst (-1), 1) := by decide +kernel
theorem dX8_dronesAtSlots_31 : decode cX8_dronesAtSlots 31 = .ok (.if_icmp .eq 6, 3) := by decide +kernel
theorem dX8_dronesAtSlots_34 : decode cX8_dronesAtSlots 34 = .ok (.iinc 1 1, 3) := by decide +kernel
theorem dX8_dronesAtSlots_37 : decode cX8_dronesAtSlots 37 = .ok (.iinc 2 1, 3) := by decide +kernel
theorem dX8_dronesAtSlots_40 : decode cX8_dronesAtSlots 40 = .ok (.goto (-36), 3) := by decide +kernel
theorem dX8_dronesAtSlots_43 : decode cX8_dronesAtSlots 43 = .ok (.iload_n 1, 1) := by decide +kernel
theorem dX8_dronesAtSlots_44 : decode cX8_dronesAtSlots 44 = .ok (.ireturn, 1) := by decide +kernel
theorem dX8_copyFrom_0 : decode cX8_copyFrom 0 = .ok (.aload_n 1, 1) := by decide +kernel
theorem dX8_copyFrom_1 : decode cX8_copyFrom 1 = .ok (.getfield 9, 3) := by decide +kernel
theorem dX8_copyFrom_4 : decode cX8_copyFrom 4 = .ok (.iconst 0, 1) := by decide +kernel
theorem dX8_copyFrom_5 : decode cX8_copyFrom 5 = .ok (.aload_n 0, 1) := by decide +kernel
theorem dX8_copyFrom_6 : decode cX8_copyFrom 6 = .ok (.getfield 9, 3) := by decide +kernel
theorem dX8_copyFrom_9 : decode cX8_copyFrom 9 = .ok (.iconst 0, 1) := by decide +kernel
theorem dX8_copyFrom_10 : decode cX8_copyFrom 10 = .ok (.iconst 3, 1) := by decide +kernel
theorem dX8_copyFrom_11 : decode cX8_copyFrom 11 = .ok (.invokestatic 43, 3) := by decide +kernel
theorem dX8_copyFrom_14 : decode cX8_copyFrom 14 = .ok (.aload_n 1, 1) := by decide +kernel
theorem dX8_copyFrom_15 : decode cX8_copyFrom 15 = .ok (.getfield 15, 3) := by decide +kernel
theorem dX8_copyFrom_18 : decode cX8_copyFrom 18 = .ok (.iconst 0, 1) := by decide +kernel
theorem dX8_copyFrom_19 : decode cX8_copyFrom 19 = .ok (.aload_n 0, 1) := by decide +kernel
theorem dX8_copyFrom_20 : decode cX8_copyFrom 20 = .ok (.getfield 15, 3) := by decide +kernel
theorem dX8_copyFrom_23 : decode cX8_copyFrom 23 = .ok (.iconst 0, 1) := by decide +kernel
theorem dX8_copyFrom_24 : decode cX8_copyFrom 24 = .ok (.bipush 108, 2) := by decide +kernel
theorem dX8_copyFrom_26 : decode cX8_copyFrom 26 = .ok (.invokestatic 43, 3) := by decide +kernel
theorem dX8_copyFrom_29 : decode cX8_copyFrom 29 = .ok (.aload_n 0, 1) := by decide +kernel
theorem dX8_copyFrom_30 : decode cX8_copyFrom 30 = .ok (.getfield 21, 3) := by decide +kernel
theorem dX8_copyFrom_33 : decode cX8_copyFrom 33 = .ok (.aload_n 1, 1) := by decide +kernel
theorem dX8_copyFrom_34 : decode cX8_copyFrom 34 = .ok (.getfield 21, 3) := by decide +kernel
theorem dX8_copyFrom_37 : decode cX8_copyFrom 37 = .ok (.invokevirtual 49, 3) := by decide +kernel
theorem dX8_copyFrom_40 : decode cX8_copyFrom 40 = .ok (.aload_n 0, 1) := by decide +kernel
theorem dX8_copyFrom_41 : decode cX8_copyFrom 41 = .ok (.getfield 25, 3) := by decide +kernel
theorem dX8_copyFrom_44 : decode cX8_copyFrom 44 = .ok (.aload_n 1, 1) := by decide +kernel
theorem dX8_copyFrom_45 : decode cX8_copyFrom 45 = .ok (.getfield 25, 3) := by decide +kernel
theorem dX8_copyFrom_48 : decode cX8_copyFrom 48 = .ok (.invokevirtual 49, 3) := by decide +kernel
theorem dX8_copyFrom_51 : decode cX8_copyFrom 51 = .ok (.aload_n 0, 1) := by decide +kernel
theorem dX8_copyFrom_52 : decode cX8_copyFrom 52 = .ok (.aload_n 1, 1) := by decide +kernel
theorem dX8_copyFrom_53 : decode cX8_copyFrom 53 = .ok (.getfield 53, 3) := by decide +kernel
theorem dX8_copyFrom_56 : decode cX8_copyFrom 56 = .ok (.putfield 53, 3) := by decide +kernel
theorem dX8_copyFrom_59 : decode cX8_copyFrom 59 = .ok (.return_, 1) := by decide +kernel
theorem dX9_init_0 : decode cX9_init 0 = .ok (.aload_n 0, 1) := by decide +kernel
theorem dX9_init_1 : decode cX9_init 1 = .ok (.invokespecial 3, 3) := by decide +kernel
theorem dX9_init_4 : decode cX9_init 4 = .ok (.aload_n 0, 1) := by decide +kernel
theorem dX9_init_5 : decode cX9_init 5 = .ok (.bipush 108, 2) := by decide +kernel
theorem dX9_init_7 : decode cX9_init 7 = .ok (.newarray .int, 2) := by decide +kernel
theorem dX9_init_9 : decode cX9_init 9 = .ok (.putfield 9, 3) := by decide +kernel
theorem dX9_init_12 : decode cX9_init 12 = .ok (.aload_n 0, 1) := by decide +kernel
theorem dX9_init_13 : decode cX9_init 13 = .ok (.aload_n 1, 1) := by decide +kernel
theorem dX9_init_14 : decode cX9_init 14 = .ok (.putfield 15, 3) := by decide +kernel
theorem dX9_init_17 : decode cX9_init 17 = .ok (.return_, 1) := by decide +kernel
theorem dX9_measure_0 : decode cX9_measure 0 = .ok (.aload_n 0, 1) := by decide +kernel
theorem dX9_measure_1 : decode cX9_measure 1 = .ok (.getfield 9, 3) := by decide +kernel
theorem dX9_measure_4 : decode cX9_measure 4 = .ok (.iconst (-1), 1) := by decide +kernel
theorem dX9_measure_5 : decode cX9_measure 5 = .ok (.invokestatic 19, 3) := by decide +kernel
theorem dX9_measure_8 : decode cX9_measure 8 = .ok (.iload_n 1, 1) := by decide +kernel
theorem dX9_measure_9 : decode cX9_measure 9 = .ok (.invokestatic 25, 3) := by decide +kernel
theorem dX9_measure_12 : decode cX9_measure 12 = .ok (.ifCond .eq 18, 3) := by decide +kernel
theorem dX9_measure_15 : decode cX9_measure 15 = .ok (.aload_n 0, 1) := by decide +kernel
theorem dX9_measure_16 : decode cX9_measure 16 = .ok (.getfield 15, 3) := by decide +kernel
theorem dX9_measure_19 : decode cX9_measure 19 = .ok (.getfield 29, 3) := by decide +kernel
theorem dX9_measure_22 : decode cX9_measure 22 = .ok (.getfield 35, 3) := by decide +kernel
theorem dX9_measure_25 : decode cX9_measure 25 = .ok (.iload_n 1, 1) := by decide +kernel
theorem dX9_measure_26 : decode cX9_measure 26 = .ok (.iaload, 1) := by decide +kernel
theorem dX9_measure_27 : decode cX9_measure 27 = .ok (.ifCond .eq 4, 3) := by decide +kernel
theorem dX9_measure_30 : decode cX9_measure 30 = .ok (.return_, 1) := by decide +kernel
theorem dX9_measure_31 : decode cX9_measure 31 = .ok (.aload_n 0, 1) := by decide +kernel
theorem dX9_measure_32 : decode cX9_measure 32 = .ok (.getfield 9, 3) := by decide +kernel
theorem dX9_measure_35 : decode cX9_measure 35 = .ok (.iload_n 1, 1) := by decide +kernel
theorem dX9_measure_36 : decode cX9_measure 36 = .ok (.iconst 0, 1) := by decide +kernel
theorem dX9_measure_37 : decode cX9_measure 37 = .ok (.iastore, 1) := by decide +kernel
theorem dX9_measure_38 : decode cX9_measure 38 = .ok (.iconst 0, 1) := by decide +kernel
theorem dX9_measure_39 : decode cX9_measure 39 = .ok (.istore_n 2, 1) := by decide +kernel
theorem dX9_measure_40 : decode cX9_measure 40 = .ok (.iconst 0, 1) := by decide +kernel
theorem dX9_measure_41 : decode cX9_measure 41 = .ok (.istore_n 3, 1) := by decide +kernel
theorem dX9_measure_42 : decode cX9_measure 42 = .ok (.iload_n 3, 1) := by decide +kernel
theorem dX9_measure_43 : decode cX9_measure 43 = .ok (.iload_n 2, 1) := by decide +kernel
theorem dX9_measure_44 : decode cX9_measure 44 = .ok (.if_icmp .gt 55, 3) := by decide +kernel
theorem dX9_measure_47 : decode cX9_measure 47 = .ok (.iload_n 3, 1) := by decide +kernel
theorem dX9_measure_48 : decode cX9_measure 48 = .ok (.sipush 216, 3) := by decide +kernel
theorem dX9_measure_51 : decode cX9_measure 51 = .ok (.if_icmp .gt 48, 3) := by decide +kernel
theorem dX9_measure_54 : decode cX9_measure 54 = .ok (.iconst 0, 1) := by decide +kernel
theorem dX9_measure_55 : decode cX9_measure 55 = .ok (.istore 4, 2) := by decide +kernel
theorem dX9_measure_57 : decode cX9_measure 57 = .ok (.iload 4, 2) := by decide +kernel
theorem dX9_measure_59 : decode cX9_measure 59 = .ok (.bipush 108, 2) := by decide +kernel
theorem dX9_measure_61 : decode cX9_measure 61 = .ok (.if_icmp .ge 32, 3) := by decide +kernel
theorem dX9_measure_64 : decode cX9_measure 64 = .ok (.aload_n 0, 1) := by decide +kernel
theorem dX9_measure_65 : decode cX9_measure 65 = .ok (.getfield 9, 3) := by decide +kernel
theorem dX9_measure_68 : decode cX9_measure 68 = .ok (.iload 4, 2) := by decide +kernel
theorem dX9_measure_70 : decode cX9_measure 70 = .ok (.iaload, 1) := by decide +kernel
theorem dX9_measure_71 : decode cX9_measure 71 = .ok (.iload_n 3, 1) := by decide +kernel
theorem dX9_measure_72 : decode cX9_measure 72 = .ok (.if_icmp .ne 15, 3) := by decide +kernel
theorem dX9_measure_75 : decode cX9_measure 75 = .ok (.iload_n 2, 1) := by decide +kernel
theorem dX9_measure_76 : decode cX9_measure 76 = .ok (.aload_n 0, 1) := by decide +kernel
theorem dX9_measure_77 : decode cX9_measure 77 = .ok (.iload 4, 2) := by decide +kernel
theorem dX9_measure_79 : decode cX9_measure 79 = .ok (.iload_n 3, 1) := by decide +kernel
theorem dX9_measure_80 : decode cX9_measure 80 = .ok (.invokevirtual 40, 3) := by decide +kernel
theorem dX9_measure_83 : decode cX9_measure 83 = .ok (.invokestatic 44, 3) := by decide +kernel
theorem dX9_measure_86 : decode cX9_measure 86 = .ok (.istore_n 2, 1) := by decide +kernel
theorem dX9_measure_87 : decode cX9_measure 87 = .ok (.iinc 4 1, 3) := by decide +kernel
theorem dX9_measure_90 : decode cX9_measure 90 = .ok (.goto (-33), 3) := by decide +kernel
theorem dX9_measure_93 : decode cX9_measure 93 = .ok (.iinc 3 1, 3) := by decide +kernel
theorem dX9_measure_96 : decode cX9_measure 96 = .ok (.goto (-54), 3) := by decide +kernel
theorem dX9_measure_99 : decode cX9_measure 99 = .ok (.return_, 1) := by decide +kernel
theorem dX9_timeFrom_0 : decode cX9_timeFrom 0 = .ok (.iload_n 1, 1) := by decide +kernel
theorem dX9_timeFrom_1 : decode cX9_timeFrom 1 = .ok (.invokestatic 25, 3) := by decide +kernel
theorem dX9_timeFrom_4 : decode cX9_timeFrom 4 = .ok (.ifCond .eq 12, 3) := by decide +kernel
theorem dX9_timeFrom_7 : decode cX9_timeFrom 7 = .ok (.aload_n 0, 1) := by decide +kernel
theorem dX9_timeFrom_8 : decode cX9_timeFrom 8 = .ok (.getfield 9, 3) := by decide +kernel
theorem dX9_timeFrom_11 : decode cX9_timeFrom 11 = .ok (.iload_n 1, 1) := by decide +kernel
theorem dX9_timeFrom_12 : decode cX9_timeFrom 12 = .ok (.iaload, 1) := by decide +kernel
theorem dX9_timeFrom_13 : decode cX9_timeFrom 13 = .ok (.goto 4, 3) := by decide +kernel
theorem dX9_timeFrom_16 : decode cX9_timeFrom 16 = .ok (.iconst (-1), 1) := by decide +kernel
theorem dX9_timeFrom_17 : decode cX9_timeFrom 17 = .ok (.ireturn, 1) := by decide +kernel
theorem dX9_firstAction_0 : decode cX9_firstAction 0 = .ok (.iconst 1, 1) := by decide +kernel
theorem dX9_firstAction_1 : decode cX9_firstAction 1 = .ok (.istore_n 2, 1) := by decide +kernel
theorem dX9_firstAction_2 : decode cX9_firstAction 2 = .ok (.iload_n 2, 1) := by decide +kernel
theorem dX9_firstAction_3 : decode cX9_firstAction 3 = .ok (.bipush 7, 2) := by decide +kernel
theorem dX9_firstAction_5 : decode cX9_firstAction 5 = .ok (.if_icmp .ge 49, 3) := by decide +kernel
theorem dX9_firstAction_8 : decode cX9_firstAction 8 = .ok (.aload_n 0, 1) := by decide +kernel
theorem dX9_firstAction_9 : decode cX9_firstAction 9 = .ok (.aload_n 0, 1) := by decide +kernel
theorem dX9_firstAction_10 : decode cX9_firstAction 10 = .ok (.getfield 15, 3) := by decide +kernel
theorem dX9_firstAction_13 : decode cX9_firstAction 13 = .ok (.iload_n 1, 1) := by decide +kernel
theorem dX9_firstAction_14 : decode cX9_firstAction 14 = .ok (.iload_n 2, 1) := by decide +kernel
theorem dX9_firstAction_15 : decode cX9_firstAction 15 = .ok (.invokevirtual 49, 3) := by decide +kernel
theorem dX9_firstAction_18 : decode cX9_firstAction 18 = .ok (.invokevirtual 52, 3) := by decide +kernel
theorem dX9_firstAction_21 : decode cX9_firstAction 21 = .ok (.istore_n 3, 1) := by decide +kernel
theorem dX9_firstAction_22 : decode cX9_firstAction 22 = .ok (.iload_n 3, 1) := by decide +kernel
theorem dX9_firstAction_23 : decode cX9_firstAction 23 = .ok (.iconst (-1), 1) := by decide +kernel
theorem dX9_firstAction_24 : decode cX9_firstAction 24 = .ok (.if_icmp .eq 24, 3) := by decide +kernel
theorem dX9_firstAction_27 : decode cX9_firstAction 27 = .ok (.iload_n 3, 1) := by decide +kernel
theorem dX9_firstAction_28 : decode cX9_firstAction 28 = .ok (.aload_n 0, 1) := by decide +kernel
theorem dX9_firstAction_29 : decode cX9_firstAction 29 = .ok (.getfield 15, 3) := by decide +kernel
theorem dX9_firstAction_32 : decode cX9_firstAction 32 = .ok (.iload_n 1, 1) := by decide +kernel
theorem dX9_firstAction_33 : decode cX9_firstAction 33 = .ok (.iload_n 2, 1) := by decide +kernel
theorem dX9_firstAction_34 : decode cX9_firstAction 34 = .ok (.invokevirtual 56, 3) := by decide +kernel
theorem dX9_firstAction_37 : decode cX9_firstAction 37 = .ok (.iadd, 1) := by decide +kernel
theorem dX9_firstAction_38 : decode cX9_firstAction 38 = .ok (.aload_n 0, 1) := by decide +kernel
theorem dX9_firstAction_39 : decode cX9_firstAction 39 = .ok (.iload_n 1, 1) := by decide +kernel
theorem dX9_firstAction_40 : decode cX9_firstAction 40 = .ok (.invokevirtual 52, 3) := by decide +kernel
theorem dX9_firstAction_43 : decode cX9_firstAction 43 = .ok (.if_icmp .ne 5, 3) := by decide +kernel
theorem dX9_firstAction_46 : decode cX9_firstAction 46 = .ok (.iload_n 2, 1) := by decide +kernel
theorem dX9_firstAction_47 : decode cX9_firstAction 47 = .ok (.ireturn, 1) := by decide +kernel
theorem dX9_firstAction_48 : decode cX9_firstAction 48 = .ok (.iinc 2 1, 3) := by decide +kernel
theorem dX9_firstAction_51 : decode cX9_firstAction 51 = .ok (.goto (-49), 3) := by decide +kernel
theorem dX9_firstAction_54 : decode cX9_firstAction 54 = .ok (.iconst 0, 1) := by decide +kernel
theorem dX9_firstAction_55 : decode cX9_firstAction 55 = .ok (.ireturn, 1) := by decide +kernel
theorem dX9_spreadBack_0 : decode cX9_spreadBack 0 = .ok (.iload_n 2, 1) := by decide +kernel
theorem dX9_spreadBack_1 : decode cX9_spreadBack 1 = .ok (.istore_n 3, 1) := by decide +kernel
theorem dX9_spreadBack_2 : decode cX9_spreadBack 2 = .ok (.iconst 1, 1) := by decide +kernel
theorem dX9_spreadBack_3 : decode cX9_spreadBack 3 = .ok (.istore 4, 2) := by decide +kernel
theorem dX9_spreadBack_5 : decode cX9_spreadBack 5 = .ok (.iload 4, 2) := by decide +kernel
theorem dX9_spreadBack_7 : decode cX9_spreadBack 7 = .ok (.bipush 7, 2) := by decide +kernel
theorem dX9_spreadBack_9 : decode cX9_spreadBack 9 = .ok (.if_icmp .ge 87, 3) := by decide +kernel
theorem dX9_spreadBack_12 : decode cX9_spreadBack 12 = .ok (.aload_n 0, 1) := by decide +kernel
theorem dX9_spreadBack_13 : decode cX9_spreadBack 13 = .ok (.getfield 15, 3) := by decide +kernel
theorem dX9_spreadBack_16 : decode cX9_spreadBack 16 = .ok (.iload_n 1, 1) := by decide +kernel
theorem dX9_spreadBack_17 : decode cX9_spreadBack 17 = .ok (.getstatic 59, 3) := by decide +kernel
theorem dX9_spreadBack_20 : decode cX9_spreadBack 20 = .ok (.iload 4, 2) := by decide +kernel
theorem dX9_spreadBack_22 : decode cX9_spreadBack 22 = .ok (.iaload, 1) := by decide +kernel
theorem dX9_spreadBack_23 : decode cX9_spreadBack 23 = .ok (.invokevirtual 49, 3) := by decide +kernel
theorem dX9_spreadBack_26 : decode cX9_spreadBack 26 = .ok (.istore 5, 2) := by decide +kernel
theorem dX9_spreadBack_28 : decode cX9_spreadBack 28 = .ok (.iload 5, 2) := by decide +kernel
theorem dX9_spreadBack_30 : decode cX9_spreadBack 30 = .ok (.invokestatic 25, 3) := by decide +kernel
theorem dX9_spreadBack_33 : decode cX9_spreadBack 33 = .ok (.ifCond .eq 57, 3) := by decide +kernel
theorem dX9_spreadBack_36 : decode cX9_spreadBack 36 = .ok (.iload_n 2, 1) := by decide +kernel
theorem dX9_spreadBack_37 : decode cX9_spreadBack 37 = .ok (.aload_n 0, 1) := by decide +kernel
theorem dX9_spreadBack_38 : decode cX9_spreadBack 38 = .ok (.getfield 15, 3) := by decide +kernel
theorem dX9_spreadBack_41 : decode cX9_spreadBack 41 = .ok (.iload 5, 2) := by decide +kernel
theorem dX9_spreadBack_43 : decode cX9_spreadBack 43 = .ok (.iload 4, 2) := by decide +kernel
theorem dX9_spreadBack_45 : decode cX9_spreadBack 45 = .ok (.invokevirtual 56, 3) := by decide +kernel
theorem dX9_spreadBack_48 : decode cX9_spreadBack 48 = .ok (.iadd, 1) := by decide +kernel
theorem dX9_spreadBack_49 : decode cX9_spreadBack 49 = .ok (.istore 6, 2) := by decide +kernel
theorem dX9_spreadBack_51 : decode cX9_spreadBack 51 = .ok (.aload_n 0, 1) := by decide +kernel
theorem dX9_spreadBack_52 : decode cX9_spreadBack 52 = .ok (.getfield 9, 3) := by decide +kernel
theorem dX9_spreadBack_55 : decode cX9_spreadBack 55 = .ok (.iload 5, 2) := by decide +kernel
theorem dX9_spreadBack_57 : decode cX9_spreadBack 57 = .ok (.iaload, 1) := by decide +kernel
theorem dX9_spreadBack_58 : decode cX9_spreadBack 58 = .ok (.iconst (-1), 1) := by decide +kernel
theorem dX9_spreadBack_59 : decode cX9_spreadBack 59 = .ok (.if_icmp .eq 15, 3) := by decide +kernel
theorem dX9_spreadBack_62 : decode cX9_spreadBack 62 = .ok (.iload 6, 2) := by decide +kernel
theorem dX9_spreadBack_64 : decode cX9_spreadBack 64 = .ok (.aload_n 0, 1) := by decide +kernel
theorem dX9_spreadBack_65 : decode cX9_spreadBack 65 = .ok (.getfield 9, 3) := by decide +kernel
theorem dX9_spreadBack_68 : decode cX9_spreadBack 68 = .ok (.iload 5, 2) := by decide +kernel
theorem dX9_spreadBack_70 : decode cX9_spreadBack 70 = .ok (.iaload, 1) := by decide +kernel
theorem dX9_spreadBack_71 : decode cX9_spreadBack 71 = .ok (.if_icmp .ge 19, 3) := by decide +kernel
theorem dX9_spreadBack_74 : decode cX9_spreadBack 74 = .ok (.aload_n 0, 1) := by decide +kernel
theorem dX9_spreadBack_75 : decode cX9_spreadBack 75 = .ok (.getfield 9, 3) := by decide +kernel
theorem dX9_spreadBack_78 : decode cX9_spreadBack 78 = .ok (.iload 5, 2) := by decide +kernel
theorem dX9_spreadBack_80 : decode cX9_spreadBack 80 = .ok (.iload 6, 2) := by decide +kernel
theorem dX9_spreadBack_82 : decode cX9_spreadBack 82 = .ok (.iastore, 1) := by decide +kernel
theorem dX9_spreadBack_83 : decode cX9_spreadBack 83 = .ok (.iload_n 3, 1) := by decide +kernel
theorem dX9_spreadBack_84 : decode cX9_spreadBack 84 = .ok (.iload 6, 2) := by decide +kernel
theorem dX9_spreadBack_86 : decode cX9_spreadBack 86 = .ok (.invokestatic 44, 3) := by decide +kernel
theorem dX9_spreadBack_89 : decode cX9_spreadBack 89 = .ok (.istore_n 3, 1) := by decide +kernel
theorem dX9_spreadBack_90 : decode cX9_spreadBack 90 = .ok (.iinc 4 1, 3) := by decide +kernel
theorem dX9_spreadBack_93 : decode cX9_spreadBack 93 = .ok (.goto (-88), 3) := by decide +kernel
theorem dX9_spreadBack_96 : decode cX9_spreadBack 96 = .ok (.iload_n 3, 1) := by decide +kernel
theorem dX9_spreadBack_97 : decode cX9_spreadBack 97 = .ok (.ireturn, 1) := by decide +kernel
theorem dX10_init_0 : decode cX10_init 0 = .ok (.aload_n 0, 1) := by decide +kernel
theorem dX10_init_1 : decode cX10_init 1 = .ok (.invokespecial 3, 3) := by decide +kernel
theorem dX10_init_4 : decode cX10_init 4 = .ok (.aload_n 0, 1) := by decide +kernel
theorem dX10_init_5 : decode cX10_init 5 = .ok (.new 9, 3) := by decide +kernel
theorem dX10_init_8 : decode cX10_init 8 = .ok (.dup, 1) := by decide +kernel
theorem dX10_init_9 : decode cX10_init 9 = .ok (.invokespecial 11, 3) := by decide +kernel
theorem dX10_init_12 : decode cX10_init 12 = .ok (.putfield 12, 3) := by decide +kernel
theorem dX10_init_15 : decode cX10_init 15 = .ok (.aload_n 0, 1) := by decide +kernel
theorem dX10_init_16 : decode cX10_init 16 = .ok (.new 16, 3) := by decide +kernel
theorem dX10_init_19 : decode cX10_init 19 = .ok (.dup, 1) := by decide +kernel
theorem dX10_init_20 : decode cX10_init 20 = .ok (.invokespecial 18, 3) := by decide +kernel
theorem dX10_init_23 : decode cX10_init 23 = .ok (.putfield 19, 3) := by decide +kernel
theorem dX10_init_26 : decode cX10_init 26 = .ok (.aload_n 0, 1) := by decide +kernel
theorem dX10_init_27 : decode cX10_init 27 = .ok (.new 23, 3) := by decide +kernel
theorem dX10_init_30 : decode cX10_init 30 = .ok (.dup, 1) := by decide +kernel
theorem dX10_init_31 : decode cX10_init 31 = .ok (.invokespecial 25, 3) := by decide +kernel
theorem dX10_init_34 : decode cX10_init 34 = .ok (.putfield 26, 3) := by decide +kernel
theorem dX10_init_37 : decode cX10_init 37 = .ok (.new 30, 3) := by decide +kernel
theorem dX10_init_40 : decode cX10_init 40 = .ok (.dup, 1) := by decide +kernel
theorem dX10_init_41 : decode cX10_init 41 = .ok (.aload_n 0, 1) := by decide +kernel
theorem dX10_init_42 : decode cX10_init 42 = .ok (.getfield 12, 3) := by decide +kernel
theorem dX10_init_45 : decode cX10_init 45 = .ok (.invokespecial 32, 3) := by decide +kernel
theorem dX10_init_48 : decode cX10_init 48 = .ok (.astore_n 1, 1) := by decide +kernel
theorem dX10_init_49 : decode cX10_init 49 = .ok (.aload_n 0, 1) := by decide +kernel
theorem dX10_init_50 : decode cX10_init 50 = .ok (.new 35, 3) := by decide +kernel
theorem dX10_init_53 : decode cX10_init 53 = .ok (.dup, 1) := by decide +kernel
theorem dX10_init_54 : decode cX10_init 54 = .ok (.aload_n 1, 1) := by decide +kernel
theorem dX10_init_55 : decode cX10_init 55 = .ok (.invokespecial 37, 3) := by decide +kernel
theorem dX10_init_58 : decode cX10_init 58 = .ok (.putfield 40, 3) := by decide +kernel
theorem dX10_init_61 : decode cX10_init 61 = .ok (.aload_n 0, 1) := by decide +kernel
theorem dX10_init_62 : decode cX10_init 62 = .ok (.new 44, 3) := by decide +kernel
theorem dX10_init_65 : decode cX10_init 65 = .ok (.dup, 1) := by decide +kernel
theorem dX10_init_66 : decode cX10_init 66 = .ok (.aload_n 0, 1) := by decide +kernel
theorem dX10_init_67 : decode cX10_init 67 = .ok (.getfield 12, 3) := by decide +kernel
theorem dX10_init_70 : decode cX10_init 70 = .ok (.aload_n 1, 1) := by decide +kernel
theorem dX10_init_71 : decode cX10_init 71 = .ok (.invokespecial 46, 3) := by decide +kernel
theorem dX10_init_74 : decode cX10_init 74 = .ok (.putfield 49, 3) := by decide +kernel
theorem dX10_init_77 : decode cX10_init 77 = .ok (.aload_n 0, 1) := by decide +kernel
theorem dX10_init_78 : decode cX10_init 78 = .ok (.new 53, 3) := by decide +kernel
theorem dX10_init_81 : decode cX10_init 81 = .ok (.dup, 1) := by decide +kernel
theorem dX10_init_82 : decode cX10_init 82 = .ok (.aload_n 0, 1) := by decide +kernel
theorem dX10_init_83 : decode cX10_init 83 = .ok (.getfield 12, 3) := by decide +kernel
theorem dX10_init_86 : decode cX10_init 86 = .ok (.aload_n 1, 1) := by decide +kernel
theorem dX10_init_87 : decode cX10_init 87 = .ok (.invokespecial 55, 3) := by decide +kernel
theorem dX10_init_90 : decode cX10_init 90 = .ok (.putfield 56, 3) := by decide +kernel
theorem dX10_init_93 : decode cX10_init 93 = .ok (.return_, 1) := by decide +kernel
theorem dX10_setWind_0 : decode cX10_setWind 0 = .ok (.iload_n 1, 1) := by decide +kernel
theorem dX10_setWind_1 : decode cX10_setWind 1 = .ok (.invokestatic 60, 3) := by decide +kernel
theorem dX10_setWind_4 : decode cX10_setWind 4 = .ok (.ifCond .eq 10, 3) := by decide +kernel
theorem dX10_setWind_7 : decode cX10_setWind 7 = .ok (.iload_n 2, 1) := by decide +kernel
theorem dX10_setWind_8 : decode cX10_setWind 8 = .ok (.invokestatic 64, 3) := by decide +kernel
theorem dX10_setWind_11 : decode cX10_setWind 11 = .ok (.ifCond .ne 6, 3) := by decide +kernel
theorem dX10_setWind_14 : decode cX10_setWind 14 = .ok (.bipush (-2), 2) := by decide +kernel
theorem dX10_setWind_16 : decode cX10_setWind 16 = .ok (.ireturn, 1) := by decide +kernel
theorem dX10_setWind_17 : decode cX10_setWind 17 = .ok (.aload_n 0, 1) := by decide +kernel
theorem dX10_setWind_18 : decode cX10_setWind 18 = .ok (.invokevirtual 67, 3) := by decide +kernel
theorem dX10_setWind_21 : decode cX10_setWind 21 = .ok (.aload_n 0, 1) := by decide +kernel
theorem dX10_setWind_22 : decode cX10_setWind 22 = .ok (.getfield 12, 3) := by decide +kernel
theorem dX10_setWind_25 : decode cX10_setWind 25 = .ok (.getfield 70, 3) := by decide +kernel
theorem dX10_setWind_28 : decode cX10_setWind 28 = .ok (.iload_n 1, 1) := by decide +kernel
theorem dX10_setWind_29 : decode cX10_setWind 29 = .ok (.iaload, 1) := by decide +kernel
theorem dX10_setWind_30 : decode cX10_setWind 30 = .ok (.istore_n 3, 1) := by decide +kernel
theorem dX10_setWind_31 : decode cX10_setWind 31 = .ok (.aload_n 0, 1) := by decide +kernel
theorem dX10_setWind_32 : decode cX10_setWind 32 = .ok (.getfield 12, 3) := by decide +kernel
theorem dX10_setWind_35 : decode cX10_setWind 35 = .ok (.getfield 70, 3) := by decide +kernel
theorem dX10_setWind_38 : decode cX10_setWind 38 = .ok (.iload_n 1, 1) := by decide +kernel
theorem dX10_setWind_39 : decode cX10_setWind 39 = .ok (.iload_n 2, 1) := by decide +kernel
theorem dX10_setWind_40 : decode cX10_setWind 40 = .ok (.iastore, 1) := by decide +kernel
theorem dX10_setWind_41 : decode cX10_setWind 41 = .ok (.iload_n 3, 1) := by decide +kernel
theorem dX10_setWind_42 : decode cX10_setWind 42 = .ok (.ireturn, 1) := by decide +kernel
theorem dX10_setObstacle_0 : decode cX10_setObstacle 0 = .ok (.iload_n 1, 1) := by decide +kernel
theorem dX10_setObstacle_1 : decode cX10_setObstacle 1 = .ok (.invokestatic 74, 3) := by decide +kernel
theorem dX10_setObstacle_4 : decode cX10_setObstacle 4 = .ok (.ifCond .eq 12, 3) := by decide +kernel
theorem dX10_setObstacle_7 : decode cX10_setObstacle 7 = .ok (.iload_n 2, 1) := by decide +kernel
theorem dX10_setObstacle_8 : decode cX10_setObstacle 8 = .ok (.ifCond .lt 8, 3) := by decide +kernel
theorem dX10_setObstacle_11 : decode cX10_setObstacle 11 = .ok (.iload_n 2, 1) := by decide +kernel
theorem dX10_setObstacle_12 : decode cX10_setObstacle 12 = .ok (.iconst 1, 1) := by decide +kernel
theorem dX10_setObstacle_13 : decode cX10_setObstacle 13 = .ok (.if_icmp .le 6, 3) := by decide +kernel
theorem dX10_setObstacle_16 : decode cX10_setObstacle 16 = .ok (.bipush (-2), 2) := by decide +kernel
theorem dX10_setObstacle_18 : decode cX10_setObstacle 18 = .ok (.ireturn, 1) := by decide +kernel
theorem dX10_setObstacle_19 : decode cX10_setObstacle 19 = .ok (.iload_n 2, 1) := by decide +kernel
theorem dX10_setObstacle_20 : decode cX10_setObstacle 20 = .ok (.iconst 1, 1) := by decide +kernel
theorem dX10_setObstacle_21 : decode cX10_setObstacle 21 = .ok (.if_icmp .ne 36, 3) := by decide +kernel
theorem dX10_setObstacle_24 : decode cX10_setObstacle 24 = .ok (.aload_n 0, 1) := by decide +kernel
theorem dX10_setObstacle_25 : decode cX10_setObstacle 25 = .ok (.getfield 12, 3) := by decide +kernel
theorem dX10_setObstacle_28 : decode cX10_setObstacle 28 = .ok (.getfield 77, 3) := by decide +kernel
theorem dX10_setObstacle_31 : decode cX10_setObstacle 31 = .ok (.iload_n 1, 1) := by decide +kernel
theorem dX10_setObstacle_32 : decode cX10_setObstacle 32 = .ok (.invokevirtual 81, 3) := by decide +kernel
theorem dX10_setObstacle_35 : decode cX10_setObstacle 35 = .ok (.iconst (-1), 1) := by decide +kernel
theorem dX10_setObstacle_36 : decode cX10_setObstacle 36 = .ok (.if_icmp .ne 18, 3) := by decide +kernel
theorem dX10_setObstacle_39 : decode cX10_setObstacle 39 = .ok (.aload_n 0, 1) := by decide +kernel
theorem dX10_setObstacle_40 : decode cX10_setObstacle 40 = .ok (.getfield 12, 3) := by decide +kernel
theorem dX10_setObstacle_43 : decode cX10_setObstacle 43 = .ok (.getfield 87, 3) := by decide +kernel
theorem dX10_setObstacle_46 : decode cX10_setObstacle 46 = .ok (.iload_n 1, 1) := by decide +kernel
theorem dX10_setObstacle_47 : decode cX10_setObstacle 47 = .ok (.invokevirtual 81, 3) := by decide +kernel
theorem dX10_setObstacle_50 : decode cX10_setObstacle 50 = .ok (.iconst (-1), 1) := by decide +kernel
theorem dX10_setObstacle_51 : decode cX10_setObstacle 51 = .ok (.if_icmp .eq 6, 3) := by decide +kernel
theorem dX10_setObstacle_54 : decode cX10_setObstacle 54 = .ok (.bipush (-4), 2) := by decide +kernel
theorem dX10_setObstacle_56 : decode cX10_setObstacle 56 = .ok (.ireturn, 1) := by decide +kernel
theorem dX10_setObstacle_57 : decode cX10_setObstacle 57 = .ok (.aload_n 0, 1) := by decide +kernel
theorem dX10_setObstacle_58 : decode cX10_setObstacle 58 = .ok (.invokevirtual 67, 3) := by decide +kernel
theorem dX10_setObstacle_61 : decode cX10_setObstacle 61 = .ok (.aload_n 0, 1) := by decide +kernel
theorem dX10_setObstacle_62 : decode cX10_setObstacle 62 = .ok (.getfield 12, 3) := by decide +kernel
theorem dX10_setObstacle_65 : decode cX10_setObstacle 65 = .ok (.getfield 90, 3) := by decide +kernel
theorem dX10_setObstacle_68 : decode cX10_setObstacle 68 = .ok (.iload_n 1, 1) := by decide +kernel
theorem dX10_setObstacle_69 : decode cX10_setObstacle 69 = .ok (.iaload, 1) := by decide +kernel
theorem dX10_setObstacle_70 : decode cX10_setObstacle 70 = .ok (.istore_n 3, 1) := by decide +kernel
theorem dX10_setObstacle_71 : decode cX10_setObstacle 71 = .ok (.aload_n 0, 1) := by decide +kernel
theorem dX10_setObstacle_72 : decode cX10_setObstacle 72 = .ok (.getfield 12, 3) := by decide +kernel
theorem dX10_setObstacle_75 : decode cX10_setObstacle 75 = .ok (.getfield 90, 3) := by decide +kernel
theorem dX10_setObstacle_78 : decode cX10_setObstacle 78 = .ok (.iload_n 1, 1) := by decide +kernel
theorem dX10_setObstacle_79 : decode cX10_setObstacle 79 = .ok (.iload_n 2, 1) := by decide +kernel
theorem dX10_setObstacle_80 : decode cX10_setObstacle 80 = .ok (.iastore, 1) := by decide +kernel
theorem dX10_setObstacle_81 : decode cX10_setObstacle 81 = .ok (.iload_n 3, 1) := by decide +kernel
theorem dX10_setObstacle_82 : decode cX10_setObstacle 82 = .ok (.ireturn, 1) := by decide +kernel
theorem dX10_addDrone_0 : decode cX10_addDrone 0 = .ok (.aload_n 0, 1) := by decide +kernel
theorem dX10_addDrone_1 : decode cX10_addDrone 1 = .ok (.aload_n 0, 1) := by decide +kernel
theorem dX10_addDrone_2 : decode cX10_addDrone 2 = .ok (.getfield 12, 3) := by decide +kernel
theorem dX10_addDrone_5 : decode cX10_addDrone 5 = .ok (.getfield 77, 3) := by decide +kernel
theorem dX10_addDrone_8 : decode cX10_addDrone 8 = .ok (.iload_n 1, 1) := by decide +kernel
theorem dX10_addDrone_9 : decode cX10_addDrone 9 = .ok (.invokevirtual 93, 3) := by decide +kernel
theorem dX10_addDrone_12 : decode cX10_addDrone 12 = .ok (.ireturn, 1) := by decide +kernel
theorem dX10_removeDrone_0 : decode cX10_removeDrone 0 = .ok (.aload_n 0, 1) := by decide +kernel
theorem dX10_removeDrone_1 : decode cX10_removeDrone 1 = .ok (.invokevirtual 67, 3) := by decide +kernel
theorem dX10_removeDrone_4 : decode cX10_removeDrone 4 = .ok (.aload_n 0, 1) := by decide +kernel
theorem dX10_removeDrone_5 : decode cX10_removeDrone 5 = .ok (.getfield 12, 3) := by decide +kernel
theorem dX10_removeDrone_8 : decode cX10_removeDrone 8 = .ok (.getfield 77, 3) := by decide +kernel
theorem dX10_removeDrone_11 : decode cX10_removeDrone 11 = .ok (.iload_n 1, 1) := by decide +kernel
theorem dX10_removeDrone_12 : decode cX10_removeDrone 12 = .ok (.invokevirtual 97, 3) := by decide +kernel
theorem dX10_removeDrone_15 : decode cX10_removeDrone 15 = .ok (.ifCond .eq 16, 3) := by decide +kernel
theorem dX10_removeDrone_18 : decode cX10_removeDrone 18 = .ok (.aload_n 0, 1) := by decide +kernel
theorem dX10_removeDrone_19 : decode cX10_removeDrone 19 = .ok (.getfield 12, 3) := by decide +kernel
theorem dX10_removeDrone_22 : decode cX10_removeDrone 22 = .ok (.getfield 77, 3) := by decide +kernel
theorem dX10_removeDrone_25 : decode cX10_removeDrone 25 = .ok (.getfield 100, 3) := by decide +kernel
theorem dX10_removeDrone_28 : decode cX10_removeDrone 28 = .ok (.goto 4, 3) := by decide +kernel
theorem dX10_removeDrone_31 : decode cX10_removeDrone 31 = .ok (.iconst (-1), 1) := by decide +kernel
theorem dX10_removeDrone_32 : decode cX10_removeDrone 32 = .ok (.ireturn, 1) := by decide +kernel
theorem dX10_addSlot_0 : decode cX10_addSlot 0 = .ok (.aload_n 0, 1) := by decide +kernel
theorem dX10_addSlot_1 : decode cX10_addSlot 1 = .ok (.aload_n 0, 1) := by decide +kernel
theorem dX10_addSlot_2 : decode cX10_addSlot 2 = .ok (.getfield 12, 3) := by decide +kernel
theorem dX10_addSlot_5 : decode cX10_addSlot 5 = .ok (.getfield 87, 3) := by decide +kernel
theorem dX10_addSlot_8 : decode cX10_addSlot 8 = .ok (.iload_n 1, 1) := by decide +kernel
theorem dX10_addSlot_9 : decode cX10_addSlot 9 = .ok (.invokevirtual 93, 3) := by decide +kernel
theorem dX10_addSlot_12 : decode cX10_addSlot 12 = .ok (.ireturn, 1) := by decide +kernel
theorem dX10_clearSlots_0 : decode cX10_clearSlots 0 = .ok (.aload_n 0, 1) := by decide +kernel
theorem dX10_clearSlots_1 : decode cX10_clearSlots 1 = .ok (.invokevirtual 67, 3) := by decide +kernel
theorem dX10_clearSlots_4 : decode cX10_clearSlots 4 = .ok (.aload_n 0, 1) := by decide +kernel
theorem dX10_clearSlots_5 : decode cX10_clearSlots 5 = .ok (.getfield 12, 3) := by decide +kernel
theorem dX10_clearSlots_8 : decode cX10_clearSlots 8 = .ok (.getfield 87, 3) := by decide +kernel
theorem dX10_clearSlots_11 : decode cX10_clearSlots 11 = .ok (.getfield 100, 3) := by decide +kernel
theorem dX10_clearSlots_14 : decode cX10_clearSlots 14 = .ok (.istore_n 1, 1) := by decide +kernel
theorem dX10_clearSlots_15 : decode cX10_clearSlots 15 = .ok (.aload_n 0, 1) := by decide +kernel
theorem dX10_clearSlots_16 : decode cX10_clearSlots 16 = .ok (.getfield 12, 3) := by decide +kernel
theorem dX10_clearSlots_19 : decode cX10_clearSlots 19 = .ok (.getfield 87, 3) := by decide +kernel
theorem dX10_clearSlots_22 : decode cX10_clearSlots 22 = .ok (.invokevirtual 104, 3) := by decide +kernel
theorem dX10_clearSlots_25 : decode cX10_clearSlots 25 = .ok (.iload_n 1, 1) := by decide +kernel
theorem dX10_clearSlots_26 : decode cX10_clearSlots 26 = .ok (.ireturn, 1) := by decide +kernel
theorem dX10_append_0 : decode cX10_append 0 = .ok (.iload_n 1, 1) := by decide +kernel
theorem dX10_append_1 : decode cX10_append 1 = .ok (.ifCond .lt 21, 3) := by decide +kernel
theorem dX10_append_4 : decode cX10_append 4 = .ok (.iload_n 1, 1) := by decide +kernel
theorem dX10_append_5 : decode cX10_append 5 = .ok (.sipush 128, 3) := by decide +kernel
theorem dX10_append_8 : decode cX10_append 8 = .ok (.if_icmp .ge 14, 3) := by decide +kernel
theorem dX10_append_11 : decode cX10_append 11 = .ok (.iload_n 2, 1) := by decide +kernel
theorem dX10_append_12 : decode cX10_append 12 = .ok (.iconst 1, 1) := by decide +kernel
theorem dX10_append_13 : decode cX10_append 13 = .ok (.if_icmp .lt 9, 3) := by decide +kernel
theorem dX10_append_16 : decode cX10_append 16 = .ok (.iload_n 2, 1) := by decide +kernel
theorem dX10_append_17 : decode cX10_append 17 = .ok (.bipush 60, 2) := by decide +kernel
theorem dX10_append_19 : decode cX10_append 19 = .ok (.if_icmp .le 6, 3) := by decide +kernel
theorem dX10_append_22 : decode cX10_append 22 = .ok (.bipush (-2), 2) := by decide +kernel
theorem dX10_append_24 : decode cX10_append 24 = .ok (.ireturn, 1) := by decide +kernel
theorem dX10_append_25 : decode cX10_append 25 = .ok (.aload_n 0, 1) := by decide +kernel
theorem dX10_append_26 : decode cX10_append 26 = .ok (.getfield 26, 3) := by decide +kernel
theorem dX10_append_29 : decode cX10_append 29 = .ok (.iload_n 1, 1) := by decide +kernel
theorem dX10_append_30 : decode cX10_append 30 = .ok (.iload_n 2, 1) := by decide +kernel
theorem dX10_append_31 : decode cX10_append 31 = .ok (.invokevirtual 107, 3) := by decide +kernel
theorem dX10_append_34 : decode cX10_append 34 = .ok (.ifCond .eq 13, 3) := by decide +kernel
theorem dX10_append_37 : decode cX10_append 37 = .ok (.aload_n 0, 1) := by decide +kernel
theorem dX10_append_38 : decode cX10_append 38 = .ok (.getfield 26, 3) := by decide +kernel
theorem dX10_append_41 : decode cX10_append 41 = .ok (.getfield 111, 3) := by decide +kernel
theorem dX10_append_44 : decode cX10_append 44 = .ok (.goto 5, 3) := by decide +kernel
theorem dX10_append_47 : decode cX10_append 47 = .ok (.bipush (-3), 2) := by decide +kernel
theorem dX10_append_49 : decode cX10_append 49 = .ok (.ireturn, 1) := by decide +kernel
theorem dX10_readSlots_0 : decode cX10_readSlots 0 = .ok (.aload_n 0, 1) := by decide +kernel
theorem dX10_readSlots_1 : decode cX10_readSlots 1 = .ok (.getfield 26, 3) := by decide +kernel
theorem dX10_readSlots_4 : decode cX10_readSlots 4 = .ok (.invokevirtual 114, 3) := by decide +kernel
theorem dX10_readSlots_7 : decode cX10_readSlots 7 = .ok (.istore_n 1, 1) := by decide +kernel
theorem dX10_readSlots_8 : decode cX10_readSlots 8 = .ok (.iload_n 1, 1) := by decide +kernel
theorem dX10_readSlots_9 : decode cX10_readSlots 9 = .ok (.ifCond .ge 5, 3) := by decide +kernel
theorem dX10_readSlots_12 : decode cX10_readSlots 12 = .ok (.iload_n 1, 1) := by decide +kernel
theorem dX10_readSlots_13 : decode cX10_readSlots 13 = .ok (.ireturn, 1) := by decide +kernel
theorem dX10_readSlots_14 : decode cX10_readSlots 14 = .ok (.iload_n 1, 1) := by decide +kernel
theorem dX10_readSlots_15 : decode cX10_readSlots 15 = .ok (.bipush 6, 2) := by decide +kernel
theorem dX10_readSlots_17 : decode cX10_readSlots 17 = .ok (.if_icmp .le 6, 3) := by decide +kernel
theorem dX10_readSlots_20 : decode cX10_readSlots 20 = .ok (.bipush (-3), 2) := by decide +kernel
theorem dX10_readSlots_22 : decode cX10_readSlots 22 = .ok (.ireturn, 1) := by decide +kernel
theorem dX10_readSlots_23 : decode cX10_readSlots 23 = .ok (.aload_n 0, 1) := by decide +kernel
theorem dX10_readSlots_24 : decode cX10_readSlots 24 = .ok (.getfield 26, 3) := by decide +kernel
theorem dX10_readSlots_27 : decode cX10_readSlots 27 = .ok (.getfield 118, 3) := by decide +kernel
theorem dX10_readSlots_30 : decode cX10_readSlots 30 = .ok (.ifCond .ne 17, 3) := by decide +kernel
theorem dX10_readSlots_33 : decode cX10_readSlots 33 = .ok (.aload_n 0, 1) := by decide +kernel
theorem dX10_readSlots_34 : decode cX10_readSlots 34 = .ok (.aload_n 0, 1) := by decide +kernel
theorem dX10_readSlots_35 : decode cX10_readSlots 35 = .ok (.getfield 26, 3) := by decide +kernel
theorem dX10_readSlots_38 : decode cX10_readSlots 38 = .ok (.getfield 122, 3) := by decide +kernel
theorem dX10_readSlots_41 : decode cX10_readSlots 41 = .ok (.invokevirtual 125, 3) := by decide +kernel
theorem dX10_readSlots_44 : decode cX10_readSlots 44 = .ok (.ifCond .eq 6, 3) := by decide +kernel
theorem dX10_readSlots_47 : decode cX10_readSlots 47 = .ok (.bipush (-4), 2) := by decide +kernel
theorem dX10_readSlots_49 : decode cX10_readSlots 49 = .ok (.ireturn, 1) := by decide +kernel
theorem dX10_readSlots_50 : decode cX10_readSlots 50 = .ok (.aload_n 0, 1) := by decide +kernel
theorem dX10_readSlots_51 : decode cX10_readSlots 51 = .ok (.invokevirtual 67, 3) := by decide +kernel
theorem dX10_readSlots_54 : decode cX10_readSlots 54 = .ok (.aload_n 0, 1) := by decide +kernel
theorem dX10_readSlots_55 : decode cX10_readSlots 55 = .ok (.getfield 12, 3) := by decide +kernel
theorem dX10_readSlots_58 : decode cX10_readSlots 58 = .ok (.getfield 87, 3) := by decide +kernel
theorem dX10_readSlots_61 : decode cX10_readSlots 61 = .ok (.aload_n 0, 1) := by decide +kernel
theorem dX10_readSlots_62 : decode cX10_readSlots 62 = .ok (.getfield 26, 3) := by decide +kernel
theorem dX10_readSlots_65 : decode cX10_readSlots 65 = .ok (.getfield 122, 3) := by decide +kernel
theorem dX10_readSlots_68 : decode cX10_readSlots 68 = .ok (.invokevirtual 129, 3) := by decide +kernel
theorem dX10_readSlots_71 : decode cX10_readSlots 71 = .ok (.iload_n 1, 1) := by decide +kernel
theorem dX10_readSlots_72 : decode cX10_readSlots 72 = .ok (.ireturn, 1) := by decide +kernel
theorem dX10_flightTime_0 : decode cX10_flightTime 0 = .ok (.iload_n 1, 1) := by decide +kernel
theorem dX10_flightTime_1 : decode cX10_flightTime 1 = .ok (.invokestatic 74, 3) := by decide +kernel
theorem dX10_flightTime_4 : decode cX10_flightTime 4 = .ok (.ifCond .eq 10, 3) := by decide +kernel
theorem dX10_flightTime_7 : decode cX10_flightTime 7 = .ok (.iload_n 2, 1) := by decide +kernel
theorem dX10_flightTime_8 : decode cX10_flightTime 8 = .ok (.invokestatic 74, 3) := by decide +kernel
theorem dX10_flightTime_11 : decode cX10_flightTime 11 = .ok (.ifCond .ne 6, 3) := by decide +kernel
theorem dX10_flightTime_14 : decode cX10_flightTime 14 = .ok (.bipush (-2), 2) := by decide +kernel
theorem dX10_flightTime_16 : decode cX10_flightTime 16 = .ok (.ireturn, 1) := by decide +kernel
theorem dX10_flightTime_17 : decode cX10_flightTime 17 = .ok (.aload_n 0, 1) := by decide +kernel
theorem dX10_flightTime_18 : decode cX10_flightTime 18 = .ok (.getfield 40, 3) := by decide +kernel
theorem dX10_flightTime_21 : decode cX10_flightTime 21 = .ok (.iload_n 2, 1) := by decide +kernel
theorem dX10_flightTime_22 : decode cX10_flightTime 22 = .ok (.invokevirtual 133, 3) := by decide +kernel
theorem dX10_flightTime_25 : decode cX10_flightTime 25 = .ok (.aload_n 0, 1) := by decide +kernel
theorem dX10_flightTime_26 : decode cX10_flightTime 26 = .ok (.getfield 40, 3) := by decide +kernel
theorem dX10_flightTime_29 : decode cX10_flightTime 29 = .ok (.iload_n 1, 1) := by decide +kernel
theorem dX10_flightTime_30 : decode cX10_flightTime 30 = .ok (.invokevirtual 137, 3) := by decide +kernel
theorem dX10_flightTime_33 : decode cX10_flightTime 33 = .ok (.ireturn, 1) := by decide +kernel
theorem dX10_assigned_0 : decode cX10_assigned 0 = .ok (.aload_n 0, 1) := by decide +kernel
theorem dX10_assigned_1 : decode cX10_assigned 1 = .ok (.getfield 12, 3) := by decide +kernel
theorem dX10_assigned_4 : decode cX10_assigned 4 = .ok (.getfield 77, 3) := by decide +kernel
theorem dX10_assigned_7 : decode cX10_assigned 7 = .ok (.iload_n 1, 1) := by decide +kernel
theorem dX10_assigned_8 : decode cX10_assigned 8 = .ok (.invokevirtual 140, 3) := by decide +kernel
theorem dX10_assigned_11 : decode cX10_assigned 11 = .ok (.ifCond .ne 5, 3) := by decide +kernel
theorem dX10_assigned_14 : decode cX10_assigned 14 = .ok (.iconst (-1), 1) := by decide +kernel
theorem dX10_assigned_15 : decode cX10_assigned 15 = .ok (.ireturn, 1) := by decide +kernel
theorem dX10_assigned_16 : decode cX10_assigned 16 = .ok (.aload_n 0, 1) := by decide +kernel
theorem dX10_assigned_17 : decode cX10_assigned 17 = .ok (.getfield 49, 3) := by decide +kernel
theorem dX10_assigned_20 : decode cX10_assigned 20 = .ok (.invokevirtual 143, 3) := by decide +kernel
theorem dX10_assigned_23 : decode cX10_assigned 23 = .ok (.istore_n 2, 1) := by decide +kernel
theorem dX10_assigned_24 : decode cX10_assigned 24 = .ok (.iload_n 2, 1) := by decide +kernel
theorem dX10_assigned_25 : decode cX10_assigned 25 = .ok (.ifCond .eq 7, 3) := by decide +kernel
theorem dX10_assigned_28 : decode cX10_assigned 28 = .ok (.iload_n 2, 1) := by decide +kernel
theorem dX10_assigned_29 : decode cX10_assigned 29 = .ok (.goto 11, 3) := by decide +kernel
theorem dX10_assigned_32 : decode cX10_assigned 32 = .ok (.aload_n 0, 1) := by decide +kernel
theorem dX10_assigned_33 : decode cX10_assigned 33 = .ok (.getfield 49, 3) := by decide +kernel
theorem dX10_assigned_36 : decode cX10_assigned 36 = .ok (.iload_n 1, 1) := by decide +kernel
theorem dX10_assigned_37 : decode cX10_assigned 37 = .ok (.invokevirtual 146, 3) := by decide +kernel
theorem dX10_assigned_40 : decode cX10_assigned 40 = .ok (.ireturn, 1) := by decide +kernel
theorem dX10_assignment_0 : decode cX10_assignment 0 = .ok (.iload_n 1, 1) := by decide +kernel
theorem dX10_assignment_1 : decode cX10_assignment 1 = .ok (.ifCond .lt 8, 3) := by decide +kernel
theorem dX10_assignment_4 : decode cX10_assignment 4 = .ok (.iload_n 1, 1) := by decide +kernel
theorem dX10_assignment_5 : decode cX10_assignment 5 = .ok (.iconst 3, 1) := by decide +kernel
theorem dX10_assignment_6 : decode cX10_assignment 6 = .ok (.if_icmp .le 6, 3) := by decide +kernel
theorem dX10_assignment_9 : decode cX10_assignment 9 = .ok (.bipush (-2), 2) := by decide +kernel
theorem dX10_assignment_11 : decode cX10_assignment 11 = .ok (.ireturn, 1) := by decide +kernel
theorem dX10_assignment_12 : decode cX10_assignment 12 = .ok (.aload_n 0, 1) := by decide +kernel
theorem dX10_assignment_13 : decode cX10_assignment 13 = .ok (.getfield 49, 3) := by decide +kernel
theorem dX10_assignment_16 : decode cX10_assignment 16 = .ok (.invokevirtual 143, 3) := by decide +kernel
theorem dX10_assignment_19 : decode cX10_assignment 19 = .ok (.istore_n 2, 1) := by decide +kernel
theorem dX10_assignment_20 : decode cX10_assignment 20 = .ok (.iload_n 2, 1) := by decide +kernel
theorem dX10_assignment_21 : decode cX10_assignment 21 = .ok (.ifCond .eq 5, 3) := by decide +kernel
theorem dX10_assignment_24 : decode cX10_assignment 24 = .ok (.iload_n 2, 1) := by decide +kernel
theorem dX10_assignment_25 : decode cX10_assignment 25 = .ok (.ireturn, 1) := by decide +kernel
theorem dX10_assignment_26 : decode cX10_assignment 26 = .ok (.iload_n 1, 1) := by decide +kernel
theorem dX10_assignment_27 : decode cX10_assignment 27 = .ok (.tableswitch 49 0 2 #[25, 33, 41], 25) := by decide +kernel
theorem dX10_assignment_52 : decode cX10_assignment 52 = .ok (.aload_n 0, 1) := by decide +kernel
theorem dX10_assignment_53 : decode cX10_assignment 53 = .ok (.getfield 49, 3) := by decide +kernel
theorem dX10_assignment_56 : decode cX10_assignment 56 = .ok (.getfield 149, 3) := by decide +kernel
theorem dX10_assignment_59 : decode cX10_assignment 59 = .ok (.ireturn, 1) := by decide +kernel
theorem dX10_assignment_60 : decode cX10_assignment 60 = .ok (.aload_n 0, 1) := by decide +kernel
theorem dX10_assignment_61 : decode cX10_assignment 61 = .ok (.getfield 49, 3) := by decide +kernel
theorem dX10_assignment_64 : decode cX10_assignment 64 = .ok (.getfield 152, 3) := by decide +kernel
theorem dX10_assignment_67 : decode cX10_assignment 67 = .ok (.ireturn, 1) := by decide +kernel
theorem dX10_assignment_68 : decode cX10_assignment 68 = .ok (.aload_n 0, 1) := by decide +kernel
theorem dX10_assignment_69 : decode cX10_assignment 69 = .ok (.getfield 49, 3) := by decide +kernel
theorem dX10_assignment_72 : decode cX10_assignment 72 = .ok (.getfield 155, 3) := by decide +kernel
theorem dX10_assignment_75 : decode cX10_assignment 75 = .ok (.ireturn, 1) := by decide +kernel
theorem dX10_assignment_76 : decode cX10_assignment 76 = .ok (.aload_n 0, 1) := by decide +kernel
theorem dX10_assignment_77 : decode cX10_assignment 77 = .ok (.getfield 49, 3) := by decide +kernel
theorem dX10_assignment_80 : decode cX10_assignment 80 = .ok (.getfield 158, 3) := by decide +kernel
theorem dX10_assignment_83 : decode cX10_assignment 83 = .ok (.ireturn, 1) := by decide +kernel
theorem dX10_plan_0 : decode cX10_plan 0 = .ok (.aload_n 0, 1) := by decide +kernel
theorem dX10_plan_1 : decode cX10_plan 1 = .ok (.getfield 49, 3) := by decide +kernel
theorem dX10_plan_4 : decode cX10_plan 4 = .ok (.invokevirtual 143, 3) := by decide +kernel
theorem dX10_plan_7 : decode cX10_plan 7 = .ok (.istore_n 1, 1) := by decide +kernel
theorem dX10_plan_8 : decode cX10_plan 8 = .ok (.iload_n 1, 1) := by decide +kernel
theorem dX10_plan_9 : decode cX10_plan 9 = .ok (.ifCond .eq 7, 3) := by decide +kernel
theorem dX10_plan_12 : decode cX10_plan 12 = .ok (.iload_n 1, 1) := by decide +kernel
theorem dX10_plan_13 : decode cX10_plan 13 = .ok (.goto 14, 3) := by decide +kernel
theorem dX10_plan_16 : decode cX10_plan 16 = .ok (.aload_n 0, 1) := by decide +kernel
theorem dX10_plan_17 : decode cX10_plan 17 = .ok (.getfield 56, 3) := by decide +kernel
theorem dX10_plan_20 : decode cX10_plan 20 = .ok (.aload_n 0, 1) := by decide +kernel
theorem dX10_plan_21 : decode cX10_plan 21 = .ok (.getfield 49, 3) := by decide +kernel
theorem dX10_plan_24 : decode cX10_plan 24 = .ok (.invokevirtual 161, 3) := by decide +kernel
theorem dX10_plan_27 : decode cX10_plan 27 = .ok (.ireturn, 1) := by decide +kernel
theorem dX10_stuck_0 : decode cX10_stuck 0 = .ok (.aload_n 0, 1) := by decide +kernel
theorem dX10_stuck_1 : decode cX10_stuck 1 = .ok (.getfield 56, 3) := by decide +kernel
theorem dX10_stuck_4 : decode cX10_stuck 4 = .ok (.getfield 165, 3) := by decide +kernel
theorem dX10_stuck_7 : decode cX10_stuck 7 = .ok (.ireturn, 1) := by decide +kernel
theorem dX10_at_0 : decode cX10_at 0 = .ok (.aload_n 0, 1) := by decide +kernel
theorem dX10_at_1 : decode cX10_at 1 = .ok (.iload_n 1, 1) := by decide +kernel
theorem dX10_at_2 : decode cX10_at 2 = .ok (.iload_n 2, 1) := by decide +kernel
theorem dX10_at_3 : decode cX10_at 3 = .ok (.ifCond .lt 13, 3) := by decide +kernel
theorem dX10_at_6 : decode cX10_at 6 = .ok (.iload_n 2, 1) := by decide +kernel
theorem dX10_at_7 : decode cX10_at 7 = .ok (.bipush 60, 2) := by decide +kernel
theorem dX10_at_9 : decode cX10_at 9 = .ok (.if_icmp .gt 7, 3) := by decide +kernel
theorem dX10_at_12 : decode cX10_at 12 = .ok (.iconst 1, 1) := by decide +kernel
theorem dX10_at_13 : decode cX10_at 13 = .ok (.goto 4, 3) := by decide +kernel
theorem dX10_at_16 : decode cX10_at 16 = .ok (.iconst 0, 1) := by decide +kernel
theorem dX10_at_17 : decode cX10_at 17 = .ok (.invokevirtual 168, 3) := by decide +kernel
theorem dX10_at_20 : decode cX10_at 20 = .ok (.istore_n 3, 1) := by decide +kernel
theorem dX10_at_21 : decode cX10_at 21 = .ok (.iload_n 3, 1) := by decide +kernel
theorem dX10_at_22 : decode cX10_at 22 = .ok (.ifCond .eq 7, 3) := by decide +kernel
theorem dX10_at_25 : decode cX10_at 25 = .ok (.iload_n 3, 1) := by decide +kernel
theorem dX10_at_26 : decode cX10_at 26 = .ok (.goto 12, 3) := by decide +kernel
theorem dX10_at_29 : decode cX10_at 29 = .ok (.aload_n 0, 1) := by decide +kernel
theorem dX10_at_30 : decode cX10_at 30 = .ok (.getfield 56, 3) := by decide +kernel
theorem dX10_at_33 : decode cX10_at 33 = .ok (.iload_n 1, 1) := by decide +kernel
theorem dX10_at_34 : decode cX10_at 34 = .ok (.iload_n 2, 1) := by decide +kernel
theorem dX10_at_35 : decode cX10_at 35 = .ok (.invokevirtual 172, 3) := by decide +kernel
theorem dX10_at_38 : decode cX10_at 38 = .ok (.ireturn, 1) := by decide +kernel
theorem dX10_action_0 : decode cX10_action 0 = .ok (.aload_n 0, 1) := by decide +kernel
theorem dX10_action_1 : decode cX10_action 1 = .ok (.iload_n 1, 1) := by decide +kernel
theorem dX10_action_2 : decode cX10_action 2 = .ok (.iload_n 2, 1) := by decide +kernel
theorem dX10_action_3 : decode cX10_action 3 = .ok (.ifCond .lt 13, 3) := by decide +kernel
theorem dX10_action_6 : decode cX10_action 6 = .ok (.iload_n 2, 1) := by decide +kernel
theorem dX10_action_7 : decode cX10_action 7 = .ok (.bipush 60, 2) := by decide +kernel
theorem dX10_action_9 : decode cX10_action 9 = .ok (.if_icmp .ge 7, 3) := by decide +kernel
theorem dX10_action_12 : decode cX10_action 12 = .ok (.iconst 1, 1) := by decide +kernel
theorem dX10_action_13 : decode cX10_action 13 = .ok (.goto 4, 3) := by decide +kernel
theorem dX10_action_16 : decode cX10_action 16 = .ok (.iconst 0, 1) := by decide +kernel
theorem dX10_action_17 : decode cX10_action 17 = .ok (.invokevirtual 168, 3) := by decide +kernel
theorem dX10_action_20 : decode cX10_action 20 = .ok (.istore_n 3, 1) := by decide +kernel
theorem dX10_action_21 : decode cX10_action 21 = .ok (.iload_n 3, 1) := by decide +kernel
theorem dX10_action_22 : decode cX10_action 22 = .ok (.ifCond .eq 7, 3) := by decide +kernel
theorem dX10_action_25 : decode cX10_action 25 = .ok (.iload_n 3, 1) := by decide +kernel
theorem dX10_action_26 : decode cX10_action 26 = .ok (.goto 12, 3) := by decide +kernel
theorem dX10_action_29 : decode cX10_action 29 = .ok (.aload_n 0, 1) := by decide +kernel
theorem dX10_action_30 : decode cX10_action 30 = .ok (.getfield 56, 3) := by decide +kernel
theorem dX10_action_33 : decode cX10_action 33 = .ok (.iload_n 1, 1) := by decide +kernel
theorem dX10_action_34 : decode cX10_action 34 = .ok (.iload_n 2, 1) := by decide +kernel
theorem dX10_action_35 : decode cX10_action 35 = .ok (.invokevirtual 176, 3) := by decide +kernel
theorem dX10_action_38 : decode cX10_action 38 = .ok (.ireturn, 1) := by decide +kernel
theorem dX10_flight_0 : decode cX10_flight 0 = .ok (.aload_n 0, 1) := by decide +kernel
theorem dX10_flight_1 : decode cX10_flight 1 = .ok (.iload_n 1, 1) := by decide +kernel
theorem dX10_flight_2 : decode cX10_flight 2 = .ok (.iload_n 2, 1) := by decide +kernel
theorem dX10_flight_3 : decode cX10_flight 3 = .ok (.ifCond .lt 12, 3) := by decide +kernel
theorem dX10_flight_6 : decode cX10_flight 6 = .ok (.iload_n 2, 1) := by decide +kernel
theorem dX10_flight_7 : decode cX10_flight 7 = .ok (.iconst 4, 1) := by decide +kernel
theorem dX10_flight_8 : decode cX10_flight 8 = .ok (.if_icmp .gt 7, 3) := by decide +kernel
theorem dX10_flight_11 : decode cX10_flight 11 = .ok (.iconst 1, 1) := by decide +kernel
theorem dX10_flight_12 : decode cX10_flight 12 = .ok (.goto 4, 3) := by decide +kernel
theorem dX10_flight_15 : decode cX10_flight 15 = .ok (.iconst 0, 1) := by decide +kernel
theorem dX10_flight_16 : decode cX10_flight 16 = .ok (.invokevirtual 168, 3) := by decide +kernel
theorem dX10_flight_19 : decode cX10_flight 19 = .ok (.istore_n 3, 1) := by decide +kernel
theorem dX10_flight_20 : decode cX10_flight 20 = .ok (.iload_n 3, 1) := by decide +kernel
theorem dX10_flight_21 : decode cX10_flight 21 = .ok (.ifCond .eq 5, 3) := by decide +kernel
theorem dX10_flight_24 : decode cX10_flight 24 = .ok (.iload_n 3, 1) := by decide +kernel
theorem dX10_flight_25 : decode cX10_flight 25 = .ok (.ireturn, 1) := by decide +kernel
theorem dX10_flight_26 : decode cX10_flight 26 = .ok (.iload_n 2, 1) := by decide +kernel
theorem dX10_flight_27 : decode cX10_flight 27 = .ok (.tableswitch 65 0 3 #[29, 38, 47, 56], 29) := by decide +kernel
theorem dX10_flight_56 : decode cX10_flight 56 = .ok (.aload_n 0, 1) := by decide +kernel
theorem dX10_flight_57 : decode cX10_flight 57 = .ok (.getfield 56, 3) := by decide +kernel
theorem dX10_flight_60 : decode cX10_flight 60 = .ok (.iload_n 1, 1) := by decide +kernel
theorem dX10_flight_61 : decode cX10_flight 61 = .ok (.invokevirtual 179, 3) := by decide +kernel
theorem dX10_flight_64 : decode cX10_flight 64 = .ok (.ireturn, 1) := by decide +kernel
theorem dX10_flight_65 : decode cX10_flight 65 = .ok (.aload_n 0, 1) := by decide +kernel
theorem dX10_flight_66 : decode cX10_flight 66 = .ok (.getfield 56, 3) := by decide +kernel
theorem dX10_flight_69 : decode cX10_flight 69 = .ok (.iload_n 1, 1) := by decide +kernel
theorem dX10_flight_70 : decode cX10_flight 70 = .ok (.invokevirtual 182, 3) := by decide +kernel
theorem dX10_flight_73 : decode cX10_flight 73 = .ok (.ireturn, 1) := by decide +kernel
theorem dX10_flight_74 : decode cX10_flight 74 = .ok (.aload_n 0, 1) := by decide +kernel
theorem dX10_flight_75 : decode cX10_flight 75 = .ok (.getfield 56, 3) := by decide +kernel
theorem dX10_flight_78 : decode cX10_flight 78 = .ok (.iload_n 1, 1) := by decide +kernel
theorem dX10_flight_79 : decode cX10_flight 79 = .ok (.invokevirtual 185, 3) := by decide +kernel
theorem dX10_flight_82 : decode cX10_flight 82 = .ok (.ireturn, 1) := by decide +kernel
theorem dX10_flight_83 : decode cX10_flight 83 = .ok (.aload_n 0, 1) := by decide +kernel
theorem dX10_flight_84 : decode cX10_flight 84 = .ok (.getfield 56, 3) := by decide +kernel
theorem dX10_flight_87 : decode cX10_flight 87 = .ok (.iload_n 1, 1) := by decide +kernel
theorem dX10_flight_88 : decode cX10_flight 88 = .ok (.invokevirtual 188, 3) := by decide +kernel
theorem dX10_flight_91 : decode cX10_flight 91 = .ok (.ireturn, 1) := by decide +kernel
theorem dX10_flight_92 : decode cX10_flight 92 = .ok (.aload_n 0, 1) := by decide +kernel
theorem dX10_flight_93 : decode cX10_flight 93 = .ok (.getfield 56, 3) := by decide +kernel
theorem dX10_flight_96 : decode cX10_flight 96 = .ok (.iload_n 1, 1) := by decide +kernel
theorem dX10_flight_97 : decode cX10_flight 97 = .ok (.invokevirtual 191, 3) := by decide +kernel
theorem dX10_flight_100 : decode cX10_flight 100 = .ok (.ireturn, 1) := by decide +kernel
theorem dX10_explain_0 : decode cX10_explain 0 = .ok (.aload_n 0, 1) := by decide +kernel
theorem dX10_explain_1 : decode cX10_explain 1 = .ok (.iload_n 1, 1) := by decide +kernel
theorem dX10_explain_2 : decode cX10_explain 2 = .ok (.iload_n 2, 1) := by decide +kernel
theorem dX10_explain_3 : decode cX10_explain 3 = .ok (.ifCond .lt 13, 3) := by decide +kernel
theorem dX10_explain_6 : decode cX10_explain 6 = .ok (.iload_n 2, 1) := by decide +kernel
theorem dX10_explain_7 : decode cX10_explain 7 = .ok (.bipush 60, 2) := by decide +kernel
theorem dX10_explain_9 : decode cX10_explain 9 = .ok (.if_icmp .ge 7, 3) := by decide +kernel
theorem dX10_explain_12 : decode cX10_explain 12 = .ok (.iconst 1, 1) := by decide +kernel
theorem dX10_explain_13 : decode cX10_explain 13 = .ok (.goto 4, 3) := by decide +kernel
theorem dX10_explain_16 : decode cX10_explain 16 = .ok (.iconst 0, 1) := by decide +kernel
theorem dX10_explain_17 : decode cX10_explain 17 = .ok (.invokevirtual 168, 3) := by decide +kernel
theorem dX10_explain_20 : decode cX10_explain 20 = .ok (.istore_n 3, 1) := by decide +kernel
theorem dX10_explain_21 : decode cX10_explain 21 = .ok (.iload_n 3, 1) := by decide +kernel
theorem dX10_explain_22 : decode cX10_explain 22 = .ok (.ifCond .eq 7, 3) := by decide +kernel
theorem dX10_explain_25 : decode cX10_explain 25 = .ok (.iload_n 3, 1) := by decide +kernel
theorem dX10_explain_26 : decode cX10_explain 26 = .ok (.goto 12, 3) := by decide +kernel
theorem dX10_explain_29 : decode cX10_explain 29 = .ok (.aload_n 0, 1) := by decide +kernel
theorem dX10_explain_30 : decode cX10_explain 30 = .ok (.getfield 56, 3) := by decide +kernel
theorem dX10_explain_33 : decode cX10_explain 33 = .ok (.iload_n 1, 1) := by decide +kernel
theorem dX10_explain_34 : decode cX10_explain 34 = .ok (.iload_n 2, 1) := by decide +kernel
theorem dX10_explain_35 : decode cX10_explain 35 = .ok (.invokevirtual 192, 3) := by decide +kernel
theorem dX10_explain_38 : decode cX10_explain 38 = .ok (.ireturn, 1) := by decide +kernel
theorem dX10_conflictsWithout_0 : decode cX10_conflictsWithout 0 = .ok (.aload_n 0, 1) := by decide +kernel
theorem dX10_conflictsWithout_1 : decode cX10_conflictsWithout 1 = .ok (.getfield 56, 3) := by decide +kernel
theorem dX10_conflictsWithout_4 : decode cX10_conflictsWithout 4 = .ok (.getfield 195, 3) := by decide +kernel
theorem dX10_conflictsWithout_7 : decode cX10_conflictsWithout 7 = .ok (.ifCond .eq 13, 3) := by decide +kernel
theorem dX10_conflictsWithout_10 : decode cX10_conflictsWithout 10 = .ok (.aload_n 0, 1) := by decide +kernel
theorem dX10_conflictsWithout_11 : decode cX10_conflictsWithout 11 = .ok (.getfield 56, 3) := by decide +kernel
theorem dX10_conflictsWithout_14 : decode cX10_conflictsWithout 14 = .ok (.invokevirtual 198, 3) := by decide +kernel
theorem dX10_conflictsWithout_17 : decode cX10_conflictsWithout 17 = .ok (.goto 5, 3) := by decide +kernel
theorem dX10_conflictsWithout_20 : decode cX10_conflictsWithout 20 = .ok (.bipush (-7), 2) := by decide +kernel
theorem dX10_conflictsWithout_22 : decode cX10_conflictsWithout 22 = .ok (.ireturn, 1) := by decide +kernel
theorem dX10_fly_0 : decode cX10_fly 0 = .ok (.iload_n 1, 1) := by decide +kernel
theorem dX10_fly_1 : decode cX10_fly 1 = .ok (.iconst 1, 1) := by decide +kernel
theorem dX10_fly_2 : decode cX10_fly 2 = .ok (.if_icmp .lt 9, 3) := by decide +kernel
theorem dX10_fly_5 : decode cX10_fly 5 = .ok (.iload_n 1, 1) := by decide +kernel
theorem dX10_fly_6 : decode cX10_fly 6 = .ok (.bipush 60, 2) := by decide +kernel
theorem dX10_fly_8 : decode cX10_fly 8 = .ok (.if_icmp .le 6, 3) := by decide +kernel
theorem dX10_fly_11 : decode cX10_fly 11 = .ok (.bipush (-2), 2) := by decide +kernel
theorem dX10_fly_13 : decode cX10_fly 13 = .ok (.ireturn, 1) := by decide +kernel
theorem dX10_fly_14 : decode cX10_fly 14 = .ok (.aload_n 0, 1) := by decide +kernel
theorem dX10_fly_15 : decode cX10_fly 15 = .ok (.getfield 56, 3) := by decide +kernel
theorem dX10_fly_18 : decode cX10_fly 18 = .ok (.getfield 195, 3) := by decide +kernel
theorem dX10_fly_21 : decode cX10_fly 21 = .ok (.ifCond .ne 6, 3) := by decide +kernel
theorem dX10_fly_24 : decode cX10_fly 24 = .ok (.bipush (-7), 2) := by decide +kernel
theorem dX10_fly_26 : decode cX10_fly 26 = .ok (.ireturn, 1) := by decide +kernel
theorem dX10_fly_27 : decode cX10_fly 27 = .ok (.aload_n 0, 1) := by decide +kernel
theorem dX10_fly_28 : decode cX10_fly 28 = .ok (.getfield 19, 3) := by decide +kernel
theorem dX10_fly_31 : decode cX10_fly 31 = .ok (.aload_n 0, 1) := by decide +kernel
theorem dX10_fly_32 : decode cX10_fly 32 = .ok (.getfield 12, 3) := by decide +kernel
theorem dX10_fly_35 : decode cX10_fly 35 = .ok (.invokevirtual 201, 3) := by decide +kernel
theorem dX10_fly_38 : decode cX10_fly 38 = .ok (.aload_n 0, 1) := by decide +kernel
theorem dX10_fly_39 : decode cX10_fly 39 = .ok (.getfield 12, 3) := by decide +kernel
theorem dX10_fly_42 : decode cX10_fly 42 = .ok (.dup, 1) := by decide +kernel
theorem dX10_fly_43 : decode cX10_fly 43 = .ok (.getfield 204, 3) := by decide +kernel
theorem dX10_fly_46 : decode cX10_fly 46 = .ok (.iload_n 1, 1) := by decide +kernel
theorem dX10_fly_47 : decode cX10_fly 47 = .ok (.iadd, 1) := by decide +kernel
theorem dX10_fly_48 : decode cX10_fly 48 = .ok (.putfield 204, 3) := by decide +kernel
theorem dX10_fly_51 : decode cX10_fly 51 = .ok (.aload_n 0, 1) := by decide +kernel
theorem dX10_fly_52 : decode cX10_fly 52 = .ok (.getfield 56, 3) := by decide +kernel
theorem dX10_fly_55 : decode cX10_fly 55 = .ok (.iload_n 1, 1) := by decide +kernel
theorem dX10_fly_56 : decode cX10_fly 56 = .ok (.invokevirtual 207, 3) := by decide +kernel
theorem dX10_fly_59 : decode cX10_fly 59 = .ok (.ireturn, 1) := by decide +kernel
theorem dX10_greatestWith_0 : decode cX10_greatestWith 0 = .ok (.iload_n 1, 1) := by decide +kernel
theorem dX10_greatestWith_1 : decode cX10_greatestWith 1 = .ok (.invokestatic 60, 3) := by decide +kernel
theorem dX10_greatestWith_4 : decode cX10_greatestWith 4 = .ok (.ifCond .eq 10, 3) := by decide +kernel
theorem dX10_greatestWith_7 : decode cX10_greatestWith 7 = .ok (.iload_n 2, 1) := by decide +kernel
theorem dX10_greatestWith_8 : decode cX10_greatestWith 8 = .ok (.invokestatic 64, 3) := by decide +kernel
theorem dX10_greatestWith_11 : decode cX10_greatestWith 11 = .ok (.ifCond .ne 6, 3) := by decide +kernel
theorem dX10_greatestWith_14 : decode cX10_greatestWith 14 = .ok (.bipush (-2), 2) := by decide +kernel
theorem dX10_greatestWith_16 : decode cX10_greatestWith 16 = .ok (.ireturn, 1) := by decide +kernel
theorem dX10_greatestWith_17 : decode cX10_greatestWith 17 = .ok (.aload_n 0, 1) := by decide +kernel
theorem dX10_greatestWith_18 : decode cX10_greatestWith 18 = .ok (.getfield 12, 3) := by decide +kernel
theorem dX10_greatestWith_21 : decode cX10_greatestWith 21 = .ok (.getfield 70, 3) := by decide +kernel
theorem dX10_greatestWith_24 : decode cX10_greatestWith 24 = .ok (.iload_n 1, 1) := by decide +kernel
theorem dX10_greatestWith_25 : decode cX10_greatestWith 25 = .ok (.iaload, 1) := by decide +kernel
theorem dX10_greatestWith_26 : decode cX10_greatestWith 26 = .ok (.istore_n 3, 1) := by decide +kernel
theorem dX10_greatestWith_27 : decode cX10_greatestWith 27 = .ok (.aload_n 0, 1) := by decide +kernel
theorem dX10_greatestWith_28 : decode cX10_greatestWith 28 = .ok (.getfield 12, 3) := by decide +kernel
theorem dX10_greatestWith_31 : decode cX10_greatestWith 31 = .ok (.getfield 70, 3) := by decide +kernel
theorem dX10_greatestWith_34 : decode cX10_greatestWith 34 = .ok (.iload_n 1, 1) := by decide +kernel
theorem dX10_greatestWith_35 : decode cX10_greatestWith 35 = .ok (.iload_n 2, 1) := by decide +kernel
theorem dX10_greatestWith_36 : decode cX10_greatestWith 36 = .ok (.iastore, 1) := by decide +kernel
theorem dX10_greatestWith_37 : decode cX10_greatestWith 37 = .ok (.aload_n 0, 1) := by decide +kernel
theorem dX10_greatestWith_38 : decode cX10_greatestWith 38 = .ok (.getfield 49, 3) := by decide +kernel
theorem dX10_greatestWith_41 : decode cX10_greatestWith 41 = .ok (.invokevirtual 143, 3) := by decide +kernel
theorem dX10_greatestWith_44 : decode cX10_greatestWith 44 = .ok (.istore 4, 2) := by decide +kernel
theorem dX10_greatestWith_46 : decode cX10_greatestWith 46 = .ok (.aload_n 0, 1) := by decide +kernel
theorem dX10_greatestWith_47 : decode cX10_greatestWith 47 = .ok (.getfield 12, 3) := by decide +kernel
theorem dX10_greatestWith_50 : decode cX10_greatestWith 50 = .ok (.getfield 70, 3) := by decide +kernel
theorem dX10_greatestWith_53 : decode cX10_greatestWith 53 = .ok (.iload_n 1, 1) := by decide +kernel
theorem dX10_greatestWith_54 : decode cX10_greatestWith 54 = .ok (.iload_n 3, 1) := by decide +kernel
theorem dX10_greatestWith_55 : decode cX10_greatestWith 55 = .ok (.iastore, 1) := by decide +kernel
theorem dX10_greatestWith_56 : decode cX10_greatestWith 56 = .ok (.iload 4, 2) := by decide +kernel
theorem dX10_greatestWith_58 : decode cX10_greatestWith 58 = .ok (.ifCond .eq 8, 3) := by decide +kernel
theorem dX10_greatestWith_61 : decode cX10_greatestWith 61 = .ok (.iload 4, 2) := by decide +kernel
theorem dX10_greatestWith_63 : decode cX10_greatestWith 63 = .ok (.goto 10, 3) := by decide +kernel
theorem dX10_greatestWith_66 : decode cX10_greatestWith 66 = .ok (.aload_n 0, 1) := by decide +kernel
theorem dX10_greatestWith_67 : decode cX10_greatestWith 67 = .ok (.getfield 49, 3) := by decide +kernel
theorem dX10_greatestWith_70 : decode cX10_greatestWith 70 = .ok (.getfield 149, 3) := by decide +kernel
theorem dX10_greatestWith_73 : decode cX10_greatestWith 73 = .ok (.ireturn, 1) := by decide +kernel
theorem dX10_cellOf_0 : decode cX10_cellOf 0 = .ok (.iload_n 1, 1) := by decide +kernel
theorem dX10_cellOf_1 : decode cX10_cellOf 1 = .ok (.ifCond .lt 8, 3) := by decide +kernel
theorem dX10_cellOf_4 : decode cX10_cellOf 4 = .ok (.iload_n 1, 1) := by decide +kernel
theorem dX10_cellOf_5 : decode cX10_cellOf 5 = .ok (.iconst 1, 1) := by decide +kernel
theorem dX10_cellOf_6 : decode cX10_cellOf 6 = .ok (.if_icmp .le 6, 3) := by decide +kernel
theorem dX10_cellOf_9 : decode cX10_cellOf 9 = .ok (.bipush (-2), 2) := by decide +kernel
theorem dX10_cellOf_11 : decode cX10_cellOf 11 = .ok (.ireturn, 1) := by decide +kernel
theorem dX10_cellOf_12 : decode cX10_cellOf 12 = .ok (.iload_n 1, 1) := by decide +kernel
theorem dX10_cellOf_13 : decode cX10_cellOf 13 = .ok (.ifCond .ne 17, 3) := by decide +kernel
theorem dX10_cellOf_16 : decode cX10_cellOf 16 = .ok (.aload_n 0, 1) := by decide +kernel
theorem dX10_cellOf_17 : decode cX10_cellOf 17 = .ok (.getfield 12, 3) := by decide +kernel
theorem dX10_cellOf_20 : decode cX10_cellOf 20 = .ok (.getfield 77, 3) := by decide +kernel
theorem dX10_cellOf_23 : decode cX10_cellOf 23 = .ok (.iload_n 2, 1) := by decide +kernel
theorem dX10_cellOf_24 : decode cX10_cellOf 24 = .ok (.invokevirtual 210, 3) := by decide +kernel
theorem dX10_cellOf_27 : decode cX10_cellOf 27 = .ok (.goto 14, 3) := by decide +kernel
theorem dX10_cellOf_30 : decode cX10_cellOf 30 = .ok (.aload_n 0, 1) := by decide +kernel
theorem dX10_cellOf_31 : decode cX10_cellOf 31 = .ok (.getfield 12, 3) := by decide +kernel
theorem dX10_cellOf_34 : decode cX10_cellOf 34 = .ok (.getfield 87, 3) := by decide +kernel
theorem dX10_cellOf_37 : decode cX10_cellOf 37 = .ok (.iload_n 2, 1) := by decide +kernel
theorem dX10_cellOf_38 : decode cX10_cellOf 38 = .ok (.invokevirtual 210, 3) := by decide +kernel
theorem dX10_cellOf_41 : decode cX10_cellOf 41 = .ok (.ireturn, 1) := by decide +kernel
theorem dX10_look_0 : decode cX10_look 0 = .ok (.iload_n 1, 1) := by decide +kernel
theorem dX10_look_1 : decode cX10_look 1 = .ok (.invokestatic 74, 3) := by decide +kernel
theorem dX10_look_4 : decode cX10_look 4 = .ok (.ifCond .ne 6, 3) := by decide +kernel
theorem dX10_look_7 : decode cX10_look 7 = .ok (.bipush (-2), 2) := by decide +kernel
theorem dX10_look_9 : decode cX10_look 9 = .ok (.ireturn, 1) := by decide +kernel
theorem dX10_look_10 : decode cX10_look 10 = .ok (.aload_n 0, 1) := by decide +kernel
theorem dX10_look_11 : decode cX10_look 11 = .ok (.getfield 12, 3) := by decide +kernel
theorem dX10_look_14 : decode cX10_look 14 = .ok (.getfield 90, 3) := by decide +kernel
theorem dX10_look_17 : decode cX10_look 17 = .ok (.iload_n 1, 1) := by decide +kernel
theorem dX10_look_18 : decode cX10_look 18 = .ok (.iaload, 1) := by decide +kernel
theorem dX10_look_19 : decode cX10_look 19 = .ok (.ifCond .eq 5, 3) := by decide +kernel
theorem dX10_look_22 : decode cX10_look 22 = .ok (.iconst 1, 1) := by decide +kernel
theorem dX10_look_23 : decode cX10_look 23 = .ok (.ireturn, 1) := by decide +kernel
theorem dX10_look_24 : decode cX10_look 24 = .ok (.bipush 10, 2) := by decide +kernel
theorem dX10_look_26 : decode cX10_look 26 = .ok (.aload_n 0, 1) := by decide +kernel
theorem dX10_look_27 : decode cX10_look 27 = .ok (.getfield 12, 3) := by decide +kernel
theorem dX10_look_30 : decode cX10_look 30 = .ok (.getfield 77, 3) := by decide +kernel
theorem dX10_look_33 : decode cX10_look 33 = .ok (.iload_n 1, 1) := by decide +kernel
theorem dX10_look_34 : decode cX10_look 34 = .ok (.invokevirtual 81, 3) := by decide +kernel
theorem dX10_look_37 : decode cX10_look 37 = .ok (.iconst 1, 1) := by decide +kernel
theorem dX10_look_38 : decode cX10_look 38 = .ok (.iadd, 1) := by decide +kernel
theorem dX10_look_39 : decode cX10_look 39 = .ok (.imul, 1) := by decide +kernel
theorem dX10_look_40 : decode cX10_look 40 = .ok (.bipush 100, 2) := by decide +kernel
theorem dX10_look_42 : decode cX10_look 42 = .ok (.aload_n 0, 1) := by decide +kernel
theorem dX10_look_43 : decode cX10_look 43 = .ok (.getfield 12, 3) := by decide +kernel
theorem dX10_look_46 : decode cX10_look 46 = .ok (.getfield 87, 3) := by decide +kernel
theorem dX10_look_49 : decode cX10_look 49 = .ok (.iload_n 1, 1) := by decide +kernel
theorem dX10_look_50 : decode cX10_look 50 = .ok (.invokevirtual 81, 3) := by decide +kernel
theorem dX10_look_53 : decode cX10_look 53 = .ok (.iconst 1, 1) := by decide +kernel
theorem dX10_look_54 : decode cX10_look 54 = .ok (.iadd, 1) := by decide +kernel
theorem dX10_look_55 : decode cX10_look 55 = .ok (.imul, 1) := by decide +kernel
theorem dX10_look_56 : decode cX10_look 56 = .ok (.iadd, 1) := by decide +kernel
theorem dX10_look_57 : decode cX10_look 57 = .ok (.ireturn, 1) := by decide +kernel
theorem dX10_count_0 : decode cX10_count 0 = .ok (.iload_n 1, 1) := by decide +kernel
theorem dX10_count_1 : decode cX10_count 1 = .ok (.tableswitch 125 0 7 #[47, 58, 69, 77, 85, 93, 101, 109], 47) := by decide +kernel
theorem dX10_count_48 : decode cX10_count 48 = .ok (.aload_n 0, 1) := by decide +kernel
theorem dX10_count_49 : decode cX10_count 49 = .ok (.getfield 12, 3) := by decide +kernel
theorem dX10_count_52 : decode cX10_count 52 = .ok (.getfield 77, 3) := by decide +kernel
theorem dX10_count_55 : decode cX10_count 55 = .ok (.getfield 100, 3) := by decide +kernel
theorem dX10_count_58 : decode cX10_count 58 = .ok (.ireturn, 1) := by decide +kernel
theorem dX10_count_59 : decode cX10_count 59 = .ok (.aload_n 0, 1) := by decide +kernel
theorem dX10_count_60 : decode cX10_count 60 = .ok (.getfield 12, 3) := by decide +kernel
theorem dX10_count_63 : decode cX10_count 63 = .ok (.getfield 87, 3) := by decide +kernel
theorem dX10_count_66 : decode cX10_count 66 = .ok (.getfield 100, 3) := by decide +kernel
theorem dX10_count_69 : decode cX10_count 69 = .ok (.ireturn, 1) := by decide +kernel
theorem dX10_count_70 : decode cX10_count 70 = .ok (.aload_n 0, 1) := by decide +kernel
theorem dX10_count_71 : decode cX10_count 71 = .ok (.getfield 12, 3) := by decide +kernel
theorem dX10_count_74 : decode cX10_count 74 = .ok (.invokevirtual 213, 3) := by decide +kernel
theorem dX10_count_77 : decode cX10_count 77 = .ok (.ireturn, 1) := by decide +kernel
theorem dX10_count_78 : decode cX10_count 78 = .ok (.aload_n 0, 1) := by decide +kernel
theorem dX10_count_79 : decode cX10_count 79 = .ok (.getfield 12, 3) := by decide +kernel
theorem dX10_count_82 : decode cX10_count 82 = .ok (.invokevirtual 216, 3) := by decide +kernel
theorem dX10_count_85 : decode cX10_count 85 = .ok (.ireturn, 1) := by decide +kernel
theorem dX10_count_86 : decode cX10_count 86 = .ok (.aload_n 0, 1) := by decide +kernel
theorem dX10_count_87 : decode cX10_count 87 = .ok (.getfield 12, 3) := by decide +kernel
theorem dX10_count_90 : decode cX10_count 90 = .ok (.getfield 204, 3) := by decide +kernel
theorem dX10_count_93 : decode cX10_count 93 = .ok (.ireturn, 1) := by decide +kernel
theorem dX10_count_94 : decode cX10_count 94 = .ok (.aload_n 0, 1) := by decide +kernel
theorem dX10_count_95 : decode cX10_count 95 = .ok (.getfield 19, 3) := by decide +kernel
theorem dX10_count_98 : decode cX10_count 98 = .ok (.getfield 219, 3) := by decide +kernel
theorem dX10_count_101 : decode cX10_count 101 = .ok (.ireturn, 1) := by decide +kernel
theorem dX10_count_102 : decode cX10_count 102 = .ok (.aload_n 0, 1) := by decide +kernel
theorem dX10_count_103 : decode cX10_count 103 = .ok (.getfield 26, 3) := by decide +kernel
theorem dX10_count_106 : decode cX10_count 106 = .ok (.getfield 111, 3) := by decide +kernel
theorem dX10_count_109 : decode cX10_count 109 = .ok (.ireturn, 1) := by decide +kernel
theorem dX10_count_110 : decode cX10_count 110 = .ok (.aload_n 0, 1) := by decide +kernel
theorem dX10_count_111 : decode cX10_count 111 = .ok (.getfield 56, 3) := by decide +kernel
theorem dX10_count_114 : decode cX10_count 114 = .ok (.getfield 195, 3) := by decide +kernel
theorem dX10_count_117 : decode cX10_count 117 = .ok (.ifCond .eq 7, 3) := by decide +kernel
theorem dX10_count_120 : decode cX10_count 120 = .ok (.iconst 1, 1) := by decide +kernel
theorem dX10_count_121 : decode cX10_count 121 = .ok (.goto 4, 3) := by decide +kernel
theorem dX10_count_124 : decode cX10_count 124 = .ok (.iconst 0, 1) := by decide +kernel
theorem dX10_count_125 : decode cX10_count 125 = .ok (.ireturn, 1) := by decide +kernel
theorem dX10_count_126 : decode cX10_count 126 = .ok (.bipush (-2), 2) := by decide +kernel
theorem dX10_count_128 : decode cX10_count 128 = .ok (.ireturn, 1) := by decide +kernel
theorem dX10_undo_0 : decode cX10_undo 0 = .ok (.aload_n 0, 1) := by decide +kernel
theorem dX10_undo_1 : decode cX10_undo 1 = .ok (.getfield 56, 3) := by decide +kernel
theorem dX10_undo_4 : decode cX10_undo 4 = .ok (.invokevirtual 220, 3) := by decide +kernel
theorem dX10_undo_7 : decode cX10_undo 7 = .ok (.aload_n 0, 1) := by decide +kernel
theorem dX10_undo_8 : decode cX10_undo 8 = .ok (.getfield 19, 3) := by decide +kernel
theorem dX10_undo_11 : decode cX10_undo 11 = .ok (.aload_n 0, 1) := by decide +kernel
theorem dX10_undo_12 : decode cX10_undo 12 = .ok (.getfield 12, 3) := by decide +kernel
theorem dX10_undo_15 : decode cX10_undo 15 = .ok (.invokevirtual 223, 3) := by decide +kernel
theorem dX10_undo_18 : decode cX10_undo 18 = .ok (.ifCond .eq 13, 3) := by decide +kernel
theorem dX10_undo_21 : decode cX10_undo 21 = .ok (.aload_n 0, 1) := by decide +kernel
theorem dX10_undo_22 : decode cX10_undo 22 = .ok (.getfield 19, 3) := by decide +kernel
theorem dX10_undo_25 : decode cX10_undo 25 = .ok (.getfield 219, 3) := by decide +kernel
theorem dX10_undo_28 : decode cX10_undo 28 = .ok (.goto 4, 3) := by decide +kernel
theorem dX10_undo_31 : decode cX10_undo 31 = .ok (.iconst (-1), 1) := by decide +kernel
theorem dX10_undo_32 : decode cX10_undo 32 = .ok (.ireturn, 1) := by decide +kernel
theorem dX10_beginChange_0 : decode cX10_beginChange 0 = .ok (.aload_n 0, 1) := by decide +kernel
theorem dX10_beginChange_1 : decode cX10_beginChange 1 = .ok (.getfield 19, 3) := by decide +kernel
theorem dX10_beginChange_4 : decode cX10_beginChange 4 = .ok (.aload_n 0, 1) := by decide +kernel
theorem dX10_beginChange_5 : decode cX10_beginChange 5 = .ok (.getfield 12, 3) := by decide +kernel
theorem dX10_beginChange_8 : decode cX10_beginChange 8 = .ok (.invokevirtual 201, 3) := by decide +kernel
theorem dX10_beginChange_11 : decode cX10_beginChange 11 = .ok (.aload_n 0, 1) := by decide +kernel
theorem dX10_beginChange_12 : decode cX10_beginChange 12 = .ok (.getfield 56, 3) := by decide +kernel
theorem dX10_beginChange_15 : decode cX10_beginChange 15 = .ok (.invokevirtual 220, 3) := by decide +kernel
theorem dX10_beginChange_18 : decode cX10_beginChange 18 = .ok (.return_, 1) := by decide +kernel
theorem dX10_addPlace_0 : decode cX10_addPlace 0 = .ok (.iload_n 2, 1) := by decide +kernel
theorem dX10_addPlace_1 : decode cX10_addPlace 1 = .ok (.invokestatic 74, 3) := by decide +kernel
theorem dX10_addPlace_4 : decode cX10_addPlace 4 = .ok (.ifCond .ne 6, 3) := by decide +kernel
theorem dX10_addPlace_7 : decode cX10_addPlace 7 = .ok (.bipush (-2), 2) := by decide +kernel
theorem dX10_addPlace_9 : decode cX10_addPlace 9 = .ok (.ireturn, 1) := by decide +kernel
theorem dX10_addPlace_10 : decode cX10_addPlace 10 = .ok (.aload_n 1, 1) := by decide +kernel
theorem dX10_addPlace_11 : decode cX10_addPlace 11 = .ok (.getfield 100, 3) := by decide +kernel
theorem dX10_addPlace_14 : decode cX10_addPlace 14 = .ok (.bipush 6, 2) := by decide +kernel
theorem dX10_addPlace_16 : decode cX10_addPlace 16 = .ok (.if_icmp .lt 6, 3) := by decide +kernel
theorem dX10_addPlace_19 : decode cX10_addPlace 19 = .ok (.bipush (-3), 2) := by decide +kernel
theorem dX10_addPlace_21 : decode cX10_addPlace 21 = .ok (.ireturn, 1) := by decide +kernel
theorem dX10_addPlace_22 : decode cX10_addPlace 22 = .ok (.aload_n 0, 1) := by decide +kernel
theorem dX10_addPlace_23 : decode cX10_addPlace 23 = .ok (.getfield 12, 3) := by decide +kernel
theorem dX10_addPlace_26 : decode cX10_addPlace 26 = .ok (.getfield 90, 3) := by decide +kernel
theorem dX10_addPlace_29 : decode cX10_addPlace 29 = .ok (.iload_n 2, 1) := by decide +kernel
theorem dX10_addPlace_30 : decode cX10_addPlace 30 = .ok (.iaload, 1) := by decide +kernel
theorem dX10_addPlace_31 : decode cX10_addPlace 31 = .ok (.ifCond .ne 12, 3) := by decide +kernel
theorem dX10_addPlace_34 : decode cX10_addPlace 34 = .ok (.aload_n 1, 1) := by decide +kernel
theorem dX10_addPlace_35 : decode cX10_addPlace 35 = .ok (.iload_n 2, 1) := by decide +kernel
theorem dX10_addPlace_36 : decode cX10_addPlace 36 = .ok (.invokevirtual 81, 3) := by decide +kernel
theorem dX10_addPlace_39 : decode cX10_addPlace 39 = .ok (.iconst (-1), 1) := by decide +kernel
theorem dX10_addPlace_40 : decode cX10_addPlace 40 = .ok (.if_icmp .eq 6, 3) := by decide +kernel
theorem dX10_addPlace_43 : decode cX10_addPlace 43 = .ok (.bipush (-4), 2) := by decide +kernel
theorem dX10_addPlace_45 : decode cX10_addPlace 45 = .ok (.ireturn, 1) := by decide +kernel
theorem dX10_addPlace_46 : decode cX10_addPlace 46 = .ok (.aload_n 0, 1) := by decide +kernel
theorem dX10_addPlace_47 : decode cX10_addPlace 47 = .ok (.invokevirtual 67, 3) := by decide +kernel
theorem dX10_addPlace_50 : decode cX10_addPlace 50 = .ok (.aload_n 1, 1) := by decide +kernel
theorem dX10_addPlace_51 : decode cX10_addPlace 51 = .ok (.iload_n 2, 1) := by decide +kernel
theorem dX10_addPlace_52 : decode cX10_addPlace 52 = .ok (.invokevirtual 227, 3) := by decide +kernel
theorem dX10_addPlace_55 : decode cX10_addPlace 55 = .ok (.aload_n 1, 1) := by decide +kernel
theorem dX10_addPlace_56 : decode cX10_addPlace 56 = .ok (.getfield 100, 3) := by decide +kernel
theorem dX10_addPlace_59 : decode cX10_addPlace 59 = .ok (.iconst 1, 1) := by decide +kernel
theorem dX10_addPlace_60 : decode cX10_addPlace 60 = .ok (.isub, 1) := by decide +kernel
theorem dX10_addPlace_61 : decode cX10_addPlace 61 = .ok (.ireturn, 1) := by decide +kernel
theorem dX10_hasObstacle_0 : decode cX10_hasObstacle 0 = .ok (.iconst 0, 1) := by decide +kernel
theorem dX10_hasObstacle_1 : decode cX10_hasObstacle 1 = .ok (.istore_n 2, 1) := by decide +kernel
theorem dX10_hasObstacle_2 : decode cX10_hasObstacle 2 = .ok (.iload_n 2, 1) := by decide +kernel
theorem dX10_hasObstacle_3 : decode cX10_hasObstacle 3 = .ok (.aload_n 1, 1) := by decide +kernel
theorem dX10_hasObstacle_4 : decode cX10_hasObstacle 4 = .ok (.getfield 100, 3) := by decide +kernel
theorem dX10_hasObstacle_7 : decode cX10_hasObstacle 7 = .ok (.if_icmp .ge 26, 3) := by decide +kernel
theorem dX10_hasObstacle_10 : decode cX10_hasObstacle 10 = .ok (.aload_n 0, 1) := by decide +kernel
theorem dX10_hasObstacle_11 : decode cX10_hasObstacle 11 = .ok (.getfield 12, 3) := by decide +kernel
theorem dX10_hasObstacle_14 : decode cX10_hasObstacle 14 = .ok (.aload_n 1, 1) := by decide +kernel
theorem dX10_hasObstacle_15 : decode cX10_hasObstacle 15 = .ok (.iload_n 2, 1) := by decide +kernel
theorem dX10_hasObstacle_16 : decode cX10_hasObstacle 16 = .ok (.invokevirtual 210, 3) := by decide +kernel
theorem dX10_hasObstacle_19 : decode cX10_hasObstacle 19 = .ok (.invokevirtual 230, 3) := by decide +kernel
theorem dX10_hasObstacle_22 : decode cX10_hasObstacle 22 = .ok (.ifCond .eq 5, 3) := by decide +kernel
theorem dX10_hasObstacle_25 : decode cX10_hasObstacle 25 = .ok (.iconst 1, 1) := by decide +kernel
theorem dX10_hasObstacle_26 : decode cX10_hasObstacle 26 = .ok (.ireturn, 1) := by decide +kernel
theorem dX10_hasObstacle_27 : decode cX10_hasObstacle 27 = .ok (.iinc 2 1, 3) := by decide +kernel
theorem dX10_hasObstacle_30 : decode cX10_hasObstacle 30 = .ok (.goto (-28), 3) := by decide +kernel
theorem dX10_hasObstacle_33 : decode cX10_hasObstacle 33 = .ok (.iconst 0, 1) := by decide +kernel
theorem dX10_hasObstacle_34 : decode cX10_hasObstacle 34 = .ok (.ireturn, 1) := by decide +kernel
theorem dX10_planError_0 : decode cX10_planError 0 = .ok (.aload_n 0, 1) := by decide +kernel
theorem dX10_planError_1 : decode cX10_planError 1 = .ok (.getfield 12, 3) := by decide +kernel
theorem dX10_planError_4 : decode cX10_planError 4 = .ok (.getfield 77, 3) := by decide +kernel
theorem dX10_planError_7 : decode cX10_planError 7 = .ok (.iload_n 1, 1) := by decide +kernel
theorem dX10_planError_8 : decode cX10_planError 8 = .ok (.invokevirtual 140, 3) := by decide +kernel
theorem dX10_planError_11 : decode cX10_planError 11 = .ok (.ifCond .ne 5, 3) := by decide +kernel
theorem dX10_planError_14 : decode cX10_planError 14 = .ok (.iconst (-1), 1) := by decide +kernel
theorem dX10_planError_15 : decode cX10_planError 15 = .ok (.ireturn, 1) := by decide +kernel
theorem dX10_planError_16 : decode cX10_planError 16 = .ok (.iload_n 2, 1) := by decide +kernel
theorem dX10_planError_17 : decode cX10_planError 17 = .ok (.ifCond .ne 6, 3) := by decide +kernel
theorem dX10_planError_20 : decode cX10_planError 20 = .ok (.bipush (-2), 2) := by decide +kernel
theorem dX10_planError_22 : decode cX10_planError 22 = .ok (.ireturn, 1) := by decide +kernel
theorem dX10_planError_23 : decode cX10_planError 23 = .ok (.aload_n 0, 1) := by decide +kernel
theorem dX10_planError_24 : decode cX10_planError 24 = .ok (.getfield 56, 3) := by decide +kernel
theorem dX10_planError_27 : decode cX10_planError 27 = .ok (.getfield 195, 3) := by decide +kernel
theorem dX10_planError_30 : decode cX10_planError 30 = .ok (.ifCond .eq 7, 3) := by decide +kernel
theorem dX10_planError_33 : decode cX10_planError 33 = .ok (.iconst 0, 1) := by decide +kernel
theorem dX10_planError_34 : decode cX10_planError 34 = .ok (.goto 5, 3) := by decide +kernel
theorem dX10_planError_37 : decode cX10_planError 37 = .ok (.bipush (-7), 2) := by decide +kernel
theorem dX10_planError_39 : decode cX10_planError 39 = .ok (.ireturn, 1) := by decide +kernel
theorem dX10_isCell_0 : decode cX10_isCell 0 = .ok (.iload_n 0, 1) := by decide +kernel
theorem dX10_isCell_1 : decode cX10_isCell 1 = .ok (.ifCond .lt 13, 3) := by decide +kernel
theorem dX10_isCell_4 : decode cX10_isCell 4 = .ok (.iload_n 0, 1) := by decide +kernel
theorem dX10_isCell_5 : decode cX10_isCell 5 = .ok (.bipush 108, 2) := by decide +kernel
theorem dX10_isCell_7 : decode cX10_isCell 7 = .ok (.if_icmp .ge 7, 3) := by decide +kernel
theorem dX10_isCell_10 : decode cX10_isCell 10 = .ok (.iconst 1, 1) := by decide +kernel
theorem dX10_isCell_11 : decode cX10_isCell 11 = .ok (.goto 4, 3) := by decide +kernel
theorem dX10_isCell_14 : decode cX10_isCell 14 = .ok (.iconst 0, 1) := by decide +kernel
theorem dX10_isCell_15 : decode cX10_isCell 15 = .ok (.ireturn, 1) := by decide +kernel
theorem dX10_isLayer_0 : decode cX10_isLayer 0 = .ok (.iload_n 0, 1) := by decide +kernel
theorem dX10_isLayer_1 : decode cX10_isLayer 1 = .ok (.ifCond .lt 12, 3) := by decide +kernel
theorem dX10_isLayer_4 : decode cX10_isLayer 4 = .ok (.iload_n 0, 1) := by decide +kernel
theorem dX10_isLayer_5 : decode cX10_isLayer 5 = .ok (.iconst 3, 1) := by decide +kernel
theorem dX10_isLayer_6 : decode cX10_isLayer 6 = .ok (.if_icmp .ge 7, 3) := by decide +kernel
theorem dX10_isLayer_9 : decode cX10_isLayer 9 = .ok (.iconst 1, 1) := by decide +kernel
theorem dX10_isLayer_10 : decode cX10_isLayer 10 = .ok (.goto 4, 3) := by decide +kernel
theorem dX10_isLayer_13 : decode cX10_isLayer 13 = .ok (.iconst 0, 1) := by decide +kernel
theorem dX10_isLayer_14 : decode cX10_isLayer 14 = .ok (.ireturn, 1) := by decide +kernel
theorem dX10_isWind_0 : decode cX10_isWind 0 = .ok (.iload_n 0, 1) := by decide +kernel
theorem dX10_isWind_1 : decode cX10_isWind 1 = .ok (.ifCond .lt 12, 3) := by decide +kernel
theorem dX10_isWind_4 : decode cX10_isWind 4 = .ok (.iload_n 0, 1) := by decide +kernel
theorem dX10_isWind_5 : decode cX10_isWind 5 = .ok (.iconst 5, 1) := by decide +kernel
theorem dX10_isWind_6 : decode cX10_isWind 6 = .ok (.if_icmp .ge 7, 3) := by decide +kernel
theorem dX10_isWind_9 : decode cX10_isWind 9 = .ok (.iconst 1, 1) := by decide +kernel
theorem dX10_isWind_10 : decode cX10_isWind 10 = .ok (.goto 4, 3) := by decide +kernel
theorem dX10_isWind_13 : decode cX10_isWind 13 = .ok (.iconst 0, 1) := by decide +kernel
theorem dX10_isWind_14 : decode cX10_isWind 14 = .ok (.ireturn, 1) := by decide +kernel
theorem dX10_isAction_0 : decode cX10_isAction 0 = .ok (.iload_n 0, 1) := by decide +kernel
theorem dX10_isAction_1 : decode cX10_isAction 1 = .ok (.ifCond .lt 13, 3) := by decide +kernel
theorem dX10_isAction_4 : decode cX10_isAction 4 = .ok (.iload_n 0, 1) := by decide +kernel
theorem dX10_isAction_5 : decode cX10_isAction 5 = .ok (.bipush 7, 2) := by decide +kernel
theorem dX10_isAction_7 : decode cX10_isAction 7 = .ok (.if_icmp .ge 7, 3) := by decide +kernel
theorem dX10_isAction_10 : decode cX10_isAction 10 = .ok (.iconst 1, 1) := by decide +kernel
theorem dX10_isAction_11 : decode cX10_isAction 11 = .ok (.goto 4, 3) := by decide +kernel
theorem dX10_isAction_14 : decode cX10_isAction 14 = .ok (.iconst 0, 1) := by decide +kernel
theorem dX10_isAction_15 : decode cX10_isAction 15 = .ok (.ireturn, 1) := by decide +kernel
theorem dJ9_floorMod_7cf53_0 : decode cJ9_floorMod_7cf53 0 = .ok (.iload_n 0, 1) := by decide +kernel
theorem dJ9_floorMod_7cf53_1 : decode cJ9_floorMod_7cf53 1 = .ok (.iload_n 1, 1) := by decide +kernel
theorem dJ9_floorMod_7cf53_2 : decode cJ9_floorMod_7cf53 2 = .ok (.irem, 1) := by decide +kernel
theorem dJ9_floorMod_7cf53_3 : decode cJ9_floorMod_7cf53 3 = .ok (.istore_n 2, 1) := by decide +kernel
theorem dJ9_floorMod_7cf53_4 : decode cJ9_floorMod_7cf53 4 = .ok (.iload_n 0, 1) := by decide +kernel
theorem dJ9_floorMod_7cf53_5 : decode cJ9_floorMod_7cf53 5 = .ok (.iload_n 1, 1) := by decide +kernel
theorem dJ9_floorMod_7cf53_6 : decode cJ9_floorMod_7cf53 6 = .ok (.ixor, 1) := by decide +kernel
theorem dJ9_floorMod_7cf53_7 : decode cJ9_floorMod_7cf53 7 = .ok (.ifCond .ge 11, 3) := by decide +kernel
theorem dJ9_floorMod_7cf53_10 : decode cJ9_floorMod_7cf53 10 = .ok (.iload_n 2, 1) := by decide +kernel
theorem dJ9_floorMod_7cf53_11 : decode cJ9_floorMod_7cf53 11 = .ok (.ifCond .eq 7, 3) := by decide +kernel
theorem dJ9_floorMod_7cf53_14 : decode cJ9_floorMod_7cf53 14 = .ok (.iload_n 2, 1) := by decide +kernel
theorem dJ9_floorMod_7cf53_15 : decode cJ9_floorMod_7cf53 15 = .ok (.iload_n 1, 1) := by decide +kernel
theorem dJ9_floorMod_7cf53_16 : decode cJ9_floorMod_7cf53 16 = .ok (.iadd, 1) := by decide +kernel
theorem dJ9_floorMod_7cf53_17 : decode cJ9_floorMod_7cf53 17 = .ok (.ireturn, 1) := by decide +kernel
theorem dJ9_floorMod_7cf53_18 : decode cJ9_floorMod_7cf53 18 = .ok (.iload_n 2, 1) := by decide +kernel
theorem dJ9_floorMod_7cf53_19 : decode cJ9_floorMod_7cf53 19 = .ok (.ireturn, 1) := by decide +kernel
theorem dJ9_max_7cf53_0 : decode cJ9_max_7cf53 0 = .ok (.iload_n 0, 1) := by decide +kernel
theorem dJ9_max_7cf53_1 : decode cJ9_max_7cf53 1 = .ok (.iload_n 1, 1) := by decide +kernel
theorem dJ9_max_7cf53_2 : decode cJ9_max_7cf53 2 = .ok (.if_icmp .lt 7, 3) := by decide +kernel
theorem dJ9_max_7cf53_5 : decode cJ9_max_7cf53 5 = .ok (.iload_n 0, 1) := by decide +kernel
theorem dJ9_max_7cf53_6 : decode cJ9_max_7cf53 6 = .ok (.goto 4, 3) := by decide +kernel
theorem dJ9_max_7cf53_9 : decode cJ9_max_7cf53 9 = .ok (.iload_n 1, 1) := by decide +kernel
theorem dJ9_max_7cf53_10 : decode cJ9_max_7cf53 10 = .ok (.ireturn, 1) := by decide +kernel
theorem dJ9_min_7cf53_0 : decode cJ9_min_7cf53 0 = .ok (.iload_n 0, 1) := by decide +kernel
theorem dJ9_min_7cf53_1 : decode cJ9_min_7cf53 1 = .ok (.iload_n 1, 1) := by decide +kernel
theorem dJ9_min_7cf53_2 : decode cJ9_min_7cf53 2 = .ok (.if_icmp .gt 7, 3) := by decide +kernel
theorem dJ9_min_7cf53_5 : decode cJ9_min_7cf53 5 = .ok (.iload_n 0, 1) := by decide +kernel
theorem dJ9_min_7cf53_6 : decode cJ9_min_7cf53 6 = .ok (.goto 4, 3) := by decide +kernel
theorem dJ9_min_7cf53_9 : decode cJ9_min_7cf53 9 = .ok (.iload_n 1, 1) := by decide +kernel
theorem dJ9_min_7cf53_10 : decode cJ9_min_7cf53 10 = .ok (.ireturn, 1) := by decide +kernel
theorem dJ7_fill_53178_0 : decode cJ7_fill_53178 0 = .ok (.iconst 0, 1) := by decide +kernel
theorem dJ7_fill_53178_1 : decode cJ7_fill_53178 1 = .ok (.istore_n 2, 1) := by decide +kernel
theorem dJ7_fill_53178_2 : decode cJ7_fill_53178 2 = .ok (.aload_n 0, 1) := by decide +kernel
theorem dJ7_fill_53178_3 : decode cJ7_fill_53178 3 = .ok (.arraylength, 1) := by decide +kernel
theorem dJ7_fill_53178_4 : decode cJ7_fill_53178 4 = .ok (.istore_n 3, 1) := by decide +kernel
theorem dJ7_fill_53178_5 : decode cJ7_fill_53178 5 = .ok (.iload_n 2, 1) := by decide +kernel
theorem dJ7_fill_53178_6 : decode cJ7_fill_53178 6 = .ok (.iload_n 3, 1) := by decide +kernel
theorem dJ7_fill_53178_7 : decode cJ7_fill_53178 7 = .ok (.if_icmp .ge 13, 3) := by decide +kernel
theorem dJ7_fill_53178_10 : decode cJ7_fill_53178 10 = .ok (.aload_n 0, 1) := by decide +kernel
theorem dJ7_fill_53178_11 : decode cJ7_fill_53178 11 = .ok (.iload_n 2, 1) := by decide +kernel
theorem dJ7_fill_53178_12 : decode cJ7_fill_53178 12 = .ok (.iload_n 1, 1) := by decide +kernel
theorem dJ7_fill_53178_13 : decode cJ7_fill_53178 13 = .ok (.iastore, 1) := by decide +kernel
theorem dJ7_fill_53178_14 : decode cJ7_fill_53178 14 = .ok (.iinc 2 1, 3) := by decide +kernel
theorem dJ7_fill_53178_17 : decode cJ7_fill_53178 17 = .ok (.goto (-12), 3) := by decide +kernel
theorem dJ7_fill_53178_20 : decode cJ7_fill_53178 20 = .ok (.return_, 1) := by decide +kernel
