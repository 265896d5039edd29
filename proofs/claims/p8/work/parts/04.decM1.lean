theorem dX11_isMet_4 : decode cX11_isMet 4 = .ok (.bipush 108, 2) := by decide +kernel
theorem dX11_isMet_6 : decode cX11_isMet 6 = .ok (.iload_n 3, 1) := by decide +kernel
theorem dX11_isMet_7 : decode cX11_isMet 7 = .ok (.imul, 1) := by decide +kernel
theorem dX11_isMet_8 : decode cX11_isMet 8 = .ok (.iload_n 2, 1) := by decide +kernel
theorem dX11_isMet_9 : decode cX11_isMet 9 = .ok (.iadd, 1) := by decide +kernel
theorem dX11_isMet_10 : decode cX11_isMet 10 = .ok (.iaload, 1) := by decide +kernel
theorem dX11_isMet_11 : decode cX11_isMet 11 = .ok (.istore 4, 2) := by decide +kernel
theorem dX11_isMet_13 : decode cX11_isMet 13 = .ok (.iload 4, 2) := by decide +kernel
theorem dX11_isMet_15 : decode cX11_isMet 15 = .ok (.ifCond .eq 25, 3) := by decide +kernel
theorem dX11_isMet_18 : decode cX11_isMet 18 = .ok (.iload 4, 2) := by decide +kernel
theorem dX11_isMet_20 : decode cX11_isMet 20 = .ok (.aload_n 0, 1) := by decide +kernel
theorem dX11_isMet_21 : decode cX11_isMet 21 = .ok (.getfield 57, 3) := by decide +kernel
theorem dX11_isMet_24 : decode cX11_isMet 24 = .ok (.bipush 108, 2) := by decide +kernel
theorem dX11_isMet_26 : decode cX11_isMet 26 = .ok (.iload_n 3, 1) := by decide +kernel
theorem dX11_isMet_27 : decode cX11_isMet 27 = .ok (.iconst 1, 1) := by decide +kernel
theorem dX11_isMet_28 : decode cX11_isMet 28 = .ok (.iadd, 1) := by decide +kernel
theorem dX11_isMet_29 : decode cX11_isMet 29 = .ok (.imul, 1) := by decide +kernel
theorem dX11_isMet_30 : decode cX11_isMet 30 = .ok (.iload_n 1, 1) := by decide +kernel
theorem dX11_isMet_31 : decode cX11_isMet 31 = .ok (.iadd, 1) := by decide +kernel
theorem dX11_isMet_32 : decode cX11_isMet 32 = .ok (.iaload, 1) := by decide +kernel
theorem dX11_isMet_33 : decode cX11_isMet 33 = .ok (.if_icmp .ne 7, 3) := by decide +kernel
theorem dX11_isMet_36 : decode cX11_isMet 36 = .ok (.iconst 1, 1) := by decide +kernel
theorem dX11_isMet_37 : decode cX11_isMet 37 = .ok (.goto 4, 3) := by decide +kernel
theorem dX11_isMet_40 : decode cX11_isMet 40 = .ok (.iconst 0, 1) := by decide +kernel
theorem dX11_isMet_41 : decode cX11_isMet 41 = .ok (.ireturn, 1) := by decide +kernel
theorem dX11_mayDo_0 : decode cX11_mayDo 0 = .ok (.iload_n 2, 1) := by decide +kernel
theorem dX11_mayDo_1 : decode cX11_mayDo 1 = .ok (.ifCond .ne 26, 3) := by decide +kernel
theorem dX11_mayDo_4 : decode cX11_mayDo 4 = .ok (.iload_n 3, 1) := by decide +kernel
theorem dX11_mayDo_5 : decode cX11_mayDo 5 = .ok (.bipush 60, 2) := by decide +kernel
theorem dX11_mayDo_7 : decode cX11_mayDo 7 = .ok (.if_icmp .ge 18, 3) := by decide +kernel
theorem dX11_mayDo_10 : decode cX11_mayDo 10 = .ok (.aload_n 0, 1) := by decide +kernel
theorem dX11_mayDo_11 : decode cX11_mayDo 11 = .ok (.iload_n 1, 1) := by decide +kernel
theorem dX11_mayDo_12 : decode cX11_mayDo 12 = .ok (.iload_n 3, 1) := by decide +kernel
theorem dX11_mayDo_13 : decode cX11_mayDo 13 = .ok (.iconst 1, 1) := by decide +kernel
theorem dX11_mayDo_14 : decode cX11_mayDo 14 = .ok (.iadd, 1) := by decide +kernel
theorem dX11_mayDo_15 : decode cX11_mayDo 15 = .ok (.invokevirtual 169, 3) := by decide +kernel
theorem dX11_mayDo_18 : decode cX11_mayDo 18 = .ok (.ifCond .ne 7, 3) := by decide +kernel
theorem dX11_mayDo_21 : decode cX11_mayDo 21 = .ok (.iconst 1, 1) := by decide +kernel
theorem dX11_mayDo_22 : decode cX11_mayDo 22 = .ok (.goto 4, 3) := by decide +kernel
theorem dX11_mayDo_25 : decode cX11_mayDo 25 = .ok (.iconst 0, 1) := by decide +kernel
theorem dX11_mayDo_26 : decode cX11_mayDo 26 = .ok (.ireturn, 1) := by decide +kernel
theorem dX11_mayDo_27 : decode cX11_mayDo 27 = .ok (.aload_n 0, 1) := by decide +kernel
theorem dX11_mayDo_28 : decode cX11_mayDo 28 = .ok (.iload_n 1, 1) := by decide +kernel
theorem dX11_mayDo_29 : decode cX11_mayDo 29 = .ok (.iload_n 2, 1) := by decide +kernel
theorem dX11_mayDo_30 : decode cX11_mayDo 30 = .ok (.invokevirtual 125, 3) := by decide +kernel
theorem dX11_mayDo_33 : decode cX11_mayDo 33 = .ok (.istore 4, 2) := by decide +kernel
theorem dX11_mayDo_35 : decode cX11_mayDo 35 = .ok (.aload_n 0, 1) := by decide +kernel
theorem dX11_mayDo_36 : decode cX11_mayDo 36 = .ok (.iload_n 1, 1) := by decide +kernel
theorem dX11_mayDo_37 : decode cX11_mayDo 37 = .ok (.iload_n 2, 1) := by decide +kernel
theorem dX11_mayDo_38 : decode cX11_mayDo 38 = .ok (.invokevirtual 129, 3) := by decide +kernel
theorem dX11_mayDo_41 : decode cX11_mayDo 41 = .ok (.istore 5, 2) := by decide +kernel
theorem dX11_mayDo_43 : decode cX11_mayDo 43 = .ok (.iload 4, 2) := by decide +kernel
theorem dX11_mayDo_45 : decode cX11_mayDo 45 = .ok (.ifCond .lt 29, 3) := by decide +kernel
theorem dX11_mayDo_48 : decode cX11_mayDo 48 = .ok (.iload_n 3, 1) := by decide +kernel
theorem dX11_mayDo_49 : decode cX11_mayDo 49 = .ok (.iload 5, 2) := by decide +kernel
theorem dX11_mayDo_51 : decode cX11_mayDo 51 = .ok (.iadd, 1) := by decide +kernel
theorem dX11_mayDo_52 : decode cX11_mayDo 52 = .ok (.bipush 60, 2) := by decide +kernel
theorem dX11_mayDo_54 : decode cX11_mayDo 54 = .ok (.if_icmp .gt 20, 3) := by decide +kernel
theorem dX11_mayDo_57 : decode cX11_mayDo 57 = .ok (.iload 5, 2) := by decide +kernel
theorem dX11_mayDo_59 : decode cX11_mayDo 59 = .ok (.iconst 2, 1) := by decide +kernel
theorem dX11_mayDo_60 : decode cX11_mayDo 60 = .ok (.if_icmp .ne 16, 3) := by decide +kernel
theorem dX11_mayDo_63 : decode cX11_mayDo 63 = .ok (.aload_n 0, 1) := by decide +kernel
theorem dX11_mayDo_64 : decode cX11_mayDo 64 = .ok (.iload_n 1, 1) := by decide +kernel
theorem dX11_mayDo_65 : decode cX11_mayDo 65 = .ok (.iload_n 3, 1) := by decide +kernel
theorem dX11_mayDo_66 : decode cX11_mayDo 66 = .ok (.iconst 1, 1) := by decide +kernel
theorem dX11_mayDo_67 : decode cX11_mayDo 67 = .ok (.iadd, 1) := by decide +kernel
theorem dX11_mayDo_68 : decode cX11_mayDo 68 = .ok (.invokevirtual 169, 3) := by decide +kernel
theorem dX11_mayDo_71 : decode cX11_mayDo 71 = .ok (.ifCond .eq 5, 3) := by decide +kernel
theorem dX11_mayDo_74 : decode cX11_mayDo 74 = .ok (.iconst 0, 1) := by decide +kernel
theorem dX11_mayDo_75 : decode cX11_mayDo 75 = .ok (.ireturn, 1) := by decide +kernel
theorem dX11_mayDo_76 : decode cX11_mayDo 76 = .ok (.aload_n 0, 1) := by decide +kernel
theorem dX11_mayDo_77 : decode cX11_mayDo 77 = .ok (.iload 4, 2) := by decide +kernel
theorem dX11_mayDo_79 : decode cX11_mayDo 79 = .ok (.iload_n 3, 1) := by decide +kernel
theorem dX11_mayDo_80 : decode cX11_mayDo 80 = .ok (.iload 5, 2) := by decide +kernel
theorem dX11_mayDo_82 : decode cX11_mayDo 82 = .ok (.iadd, 1) := by decide +kernel
theorem dX11_mayDo_83 : decode cX11_mayDo 83 = .ok (.invokevirtual 169, 3) := by decide +kernel
theorem dX11_mayDo_86 : decode cX11_mayDo 86 = .ok (.ifCond .ne 23, 3) := by decide +kernel
theorem dX11_mayDo_89 : decode cX11_mayDo 89 = .ok (.aload_n 0, 1) := by decide +kernel
theorem dX11_mayDo_90 : decode cX11_mayDo 90 = .ok (.iload_n 1, 1) := by decide +kernel
theorem dX11_mayDo_91 : decode cX11_mayDo 91 = .ok (.iload 4, 2) := by decide +kernel
theorem dX11_mayDo_93 : decode cX11_mayDo 93 = .ok (.iload_n 3, 1) := by decide +kernel
theorem dX11_mayDo_94 : decode cX11_mayDo 94 = .ok (.iload 5, 2) := by decide +kernel
theorem dX11_mayDo_96 : decode cX11_mayDo 96 = .ok (.iadd, 1) := by decide +kernel
theorem dX11_mayDo_97 : decode cX11_mayDo 97 = .ok (.iconst 1, 1) := by decide +kernel
theorem dX11_mayDo_98 : decode cX11_mayDo 98 = .ok (.isub, 1) := by decide +kernel
theorem dX11_mayDo_99 : decode cX11_mayDo 99 = .ok (.invokevirtual 173, 3) := by decide +kernel
theorem dX11_mayDo_102 : decode cX11_mayDo 102 = .ok (.ifCond .ne 7, 3) := by decide +kernel
theorem dX11_mayDo_105 : decode cX11_mayDo 105 = .ok (.iconst 1, 1) := by decide +kernel
theorem dX11_mayDo_106 : decode cX11_mayDo 106 = .ok (.goto 4, 3) := by decide +kernel
theorem dX11_mayDo_109 : decode cX11_mayDo 109 = .ok (.iconst 0, 1) := by decide +kernel
theorem dX11_mayDo_110 : decode cX11_mayDo 110 = .ok (.ireturn, 1) := by decide +kernel
theorem dX11_where_0 : decode cX11_where 0 = .ok (.iload_n 1, 1) := by decide +kernel
theorem dX11_where_1 : decode cX11_where 1 = .ok (.ifCond .ne 7, 3) := by decide +kernel
theorem dX11_where_4 : decode cX11_where 4 = .ok (.iload_n 0, 1) := by decide +kernel
theorem dX11_where_5 : decode cX11_where 5 = .ok (.goto 4, 3) := by decide +kernel
theorem dX11_where_8 : decode cX11_where 8 = .ok (.iload_n 2, 1) := by decide +kernel
theorem dX11_where_9 : decode cX11_where 9 = .ok (.ireturn, 1) := by decide +kernel
theorem dX11_mayStay_0 : decode cX11_mayStay 0 = .ok (.iload_n 2, 1) := by decide +kernel
theorem dX11_mayStay_1 : decode cX11_mayStay 1 = .ok (.istore_n 3, 1) := by decide +kernel
theorem dX11_mayStay_2 : decode cX11_mayStay 2 = .ok (.iload_n 3, 1) := by decide +kernel
theorem dX11_mayStay_3 : decode cX11_mayStay 3 = .ok (.bipush 60, 2) := by decide +kernel
theorem dX11_mayStay_5 : decode cX11_mayStay 5 = .ok (.if_icmp .gt 20, 3) := by decide +kernel
theorem dX11_mayStay_8 : decode cX11_mayStay 8 = .ok (.aload_n 0, 1) := by decide +kernel
theorem dX11_mayStay_9 : decode cX11_mayStay 9 = .ok (.iload_n 1, 1) := by decide +kernel
theorem dX11_mayStay_10 : decode cX11_mayStay 10 = .ok (.iload_n 3, 1) := by decide +kernel
theorem dX11_mayStay_11 : decode cX11_mayStay 11 = .ok (.invokevirtual 169, 3) := by decide +kernel
theorem dX11_mayStay_14 : decode cX11_mayStay 14 = .ok (.ifCond .eq 5, 3) := by decide +kernel
theorem dX11_mayStay_17 : decode cX11_mayStay 17 = .ok (.iconst 0, 1) := by decide +kernel
theorem dX11_mayStay_18 : decode cX11_mayStay 18 = .ok (.ireturn, 1) := by decide +kernel
theorem dX11_mayStay_19 : decode cX11_mayStay 19 = .ok (.iinc 3 1, 3) := by decide +kernel
theorem dX11_mayStay_22 : decode cX11_mayStay 22 = .ok (.goto (-20), 3) := by decide +kernel
theorem dX11_mayStay_25 : decode cX11_mayStay 25 = .ok (.iconst 1, 1) := by decide +kernel
theorem dX11_mayStay_26 : decode cX11_mayStay 26 = .ok (.ireturn, 1) := by decide +kernel
theorem dX11_earliest_0 : decode cX11_earliest 0 = .ok (.iconst 0, 1) := by decide +kernel
theorem dX11_earliest_1 : decode cX11_earliest 1 = .ok (.istore_n 2, 1) := by decide +kernel
theorem dX11_earliest_2 : decode cX11_earliest 2 = .ok (.iload_n 2, 1) := by decide +kernel
theorem dX11_earliest_3 : decode cX11_earliest 3 = .ok (.sipush 6588, 3) := by decide +kernel
theorem dX11_earliest_6 : decode cX11_earliest 6 = .ok (.if_icmp .ge 16, 3) := by decide +kernel
theorem dX11_earliest_9 : decode cX11_earliest 9 = .ok (.aload_n 0, 1) := by decide +kernel
theorem dX11_earliest_10 : decode cX11_earliest 10 = .ok (.getfield 60, 3) := by decide +kernel
theorem dX11_earliest_13 : decode cX11_earliest 13 = .ok (.iload_n 2, 1) := by decide +kernel
theorem dX11_earliest_14 : decode cX11_earliest 14 = .ok (.iconst 0, 1) := by decide +kernel
theorem dX11_earliest_15 : decode cX11_earliest 15 = .ok (.bastore, 1) := by decide +kernel
theorem dX11_earliest_16 : decode cX11_earliest 16 = .ok (.iinc 2 1, 3) := by decide +kernel
theorem dX11_earliest_19 : decode cX11_earliest 19 = .ok (.goto (-17), 3) := by decide +kernel
theorem dX11_earliest_22 : decode cX11_earliest 22 = .ok (.aload_n 0, 1) := by decide +kernel
theorem dX11_earliest_23 : decode cX11_earliest 23 = .ok (.getfield 60, 3) := by decide +kernel
theorem dX11_earliest_26 : decode cX11_earliest 26 = .ok (.aload_n 0, 1) := by decide +kernel
theorem dX11_earliest_27 : decode cX11_earliest 27 = .ok (.getfield 9, 3) := by decide +kernel
theorem dX11_earliest_30 : decode cX11_earliest 30 = .ok (.bipush 112, 2) := by decide +kernel
theorem dX11_earliest_32 : decode cX11_earliest 32 = .ok (.iload_n 1, 1) := by decide +kernel
theorem dX11_earliest_33 : decode cX11_earliest 33 = .ok (.iadd, 1) := by decide +kernel
theorem dX11_earliest_34 : decode cX11_earliest 34 = .ok (.iaload, 1) := by decide +kernel
theorem dX11_earliest_35 : decode cX11_earliest 35 = .ok (.iconst 1, 1) := by decide +kernel
theorem dX11_earliest_36 : decode cX11_earliest 36 = .ok (.bastore, 1) := by decide +kernel
theorem dX11_earliest_37 : decode cX11_earliest 37 = .ok (.iconst 0, 1) := by decide +kernel
theorem dX11_earliest_38 : decode cX11_earliest 38 = .ok (.istore_n 2, 1) := by decide +kernel
theorem dX11_earliest_39 : decode cX11_earliest 39 = .ok (.iload_n 2, 1) := by decide +kernel
theorem dX11_earliest_40 : decode cX11_earliest 40 = .ok (.bipush 60, 2) := by decide +kernel
theorem dX11_earliest_42 : decode cX11_earliest 42 = .ok (.if_icmp .gt 131, 3) := by decide +kernel
theorem dX11_earliest_45 : decode cX11_earliest 45 = .ok (.aload_n 0, 1) := by decide +kernel
theorem dX11_earliest_46 : decode cX11_earliest 46 = .ok (.getfield 60, 3) := by decide +kernel
theorem dX11_earliest_49 : decode cX11_earliest 49 = .ok (.bipush 108, 2) := by decide +kernel
theorem dX11_earliest_51 : decode cX11_earliest 51 = .ok (.iload_n 2, 1) := by decide +kernel
theorem dX11_earliest_52 : decode cX11_earliest 52 = .ok (.imul, 1) := by decide +kernel
theorem dX11_earliest_53 : decode cX11_earliest 53 = .ok (.aload_n 0, 1) := by decide +kernel
theorem dX11_earliest_54 : decode cX11_earliest 54 = .ok (.getfield 54, 3) := by decide +kernel
theorem dX11_earliest_57 : decode cX11_earliest 57 = .ok (.iload_n 1, 1) := by decide +kernel
theorem dX11_earliest_58 : decode cX11_earliest 58 = .ok (.iaload, 1) := by decide +kernel
theorem dX11_earliest_59 : decode cX11_earliest 59 = .ok (.iadd, 1) := by decide +kernel
theorem dX11_earliest_60 : decode cX11_earliest 60 = .ok (.baload, 1) := by decide +kernel
theorem dX11_earliest_61 : decode cX11_earliest 61 = .ok (.ifCond .eq 19, 3) := by decide +kernel
theorem dX11_earliest_64 : decode cX11_earliest 64 = .ok (.aload_n 0, 1) := by decide +kernel
theorem dX11_earliest_65 : decode cX11_earliest 65 = .ok (.aload_n 0, 1) := by decide +kernel
theorem dX11_earliest_66 : decode cX11_earliest 66 = .ok (.getfield 54, 3) := by decide +kernel
theorem dX11_earliest_69 : decode cX11_earliest 69 = .ok (.iload_n 1, 1) := by decide +kernel
theorem dX11_earliest_70 : decode cX11_earliest 70 = .ok (.iaload, 1) := by decide +kernel
theorem dX11_earliest_71 : decode cX11_earliest 71 = .ok (.iload_n 2, 1) := by decide +kernel
theorem dX11_earliest_72 : decode cX11_earliest 72 = .ok (.invokevirtual 176, 3) := by decide +kernel
theorem dX11_earliest_75 : decode cX11_earliest 75 = .ok (.ifCond .eq 5, 3) := by decide +kernel
theorem dX11_earliest_78 : decode cX11_earliest 78 = .ok (.iload_n 2, 1) := by decide +kernel
theorem dX11_earliest_79 : decode cX11_earliest 79 = .ok (.ireturn, 1) := by decide +kernel
theorem dX11_earliest_80 : decode cX11_earliest 80 = .ok (.iconst 0, 1) := by decide +kernel
theorem dX11_earliest_81 : decode cX11_earliest 81 = .ok (.istore_n 3, 1) := by decide +kernel
theorem dX11_earliest_82 : decode cX11_earliest 82 = .ok (.iload_n 3, 1) := by decide +kernel
theorem dX11_earliest_83 : decode cX11_earliest 83 = .ok (.bipush 108, 2) := by decide +kernel
theorem dX11_earliest_85 : decode cX11_earliest 85 = .ok (.if_icmp .ge 82, 3) := by decide +kernel
theorem dX11_earliest_88 : decode cX11_earliest 88 = .ok (.iconst 0, 1) := by decide +kernel
theorem dX11_earliest_89 : decode cX11_earliest 89 = .ok (.istore 4, 2) := by decide +kernel
theorem dX11_earliest_91 : decode cX11_earliest 91 = .ok (.iload 4, 2) := by decide +kernel
theorem dX11_earliest_93 : decode cX11_earliest 93 = .ok (.bipush 7, 2) := by decide +kernel
theorem dX11_earliest_95 : decode cX11_earliest 95 = .ok (.if_icmp .ge 66, 3) := by decide +kernel
theorem dX11_earliest_98 : decode cX11_earliest 98 = .ok (.aload_n 0, 1) := by decide +kernel
theorem dX11_earliest_99 : decode cX11_earliest 99 = .ok (.getfield 60, 3) := by decide +kernel
theorem dX11_earliest_102 : decode cX11_earliest 102 = .ok (.bipush 108, 2) := by decide +kernel
theorem dX11_earliest_104 : decode cX11_earliest 104 = .ok (.iload_n 2, 1) := by decide +kernel
theorem dX11_earliest_105 : decode cX11_earliest 105 = .ok (.imul, 1) := by decide +kernel
theorem dX11_earliest_106 : decode cX11_earliest 106 = .ok (.iload_n 3, 1) := by decide +kernel
theorem dX11_earliest_107 : decode cX11_earliest 107 = .ok (.iadd, 1) := by decide +kernel
theorem dX11_earliest_108 : decode cX11_earliest 108 = .ok (.baload, 1) := by decide +kernel
theorem dX11_earliest_109 : decode cX11_earliest 109 = .ok (.ifCond .eq 52, 3) := by decide +kernel
theorem dX11_earliest_112 : decode cX11_earliest 112 = .ok (.aload_n 0, 1) := by decide +kernel
theorem dX11_earliest_113 : decode cX11_earliest 113 = .ok (.iload_n 3, 1) := by decide +kernel
theorem dX11_earliest_114 : decode cX11_earliest 114 = .ok (.iload 4, 2) := by decide +kernel
theorem dX11_earliest_116 : decode cX11_earliest 116 = .ok (.iload_n 2, 1) := by decide +kernel
theorem dX11_earliest_117 : decode cX11_earliest 117 = .ok (.invokevirtual 179, 3) := by decide +kernel
theorem dX11_earliest_120 : decode cX11_earliest 120 = .ok (.ifCond .eq 35, 3) := by decide +kernel
theorem dX11_earliest_123 : decode cX11_earliest 123 = .ok (.aload_n 0, 1) := by decide +kernel
theorem dX11_earliest_124 : decode cX11_earliest 124 = .ok (.getfield 60, 3) := by decide +kernel
theorem dX11_earliest_127 : decode cX11_earliest 127 = .ok (.bipush 108, 2) := by decide +kernel
theorem dX11_earliest_129 : decode cX11_earliest 129 = .ok (.iload_n 2, 1) := by decide +kernel
theorem dX11_earliest_130 : decode cX11_earliest 130 = .ok (.aload_n 0, 1) := by decide +kernel
theorem dX11_earliest_131 : decode cX11_earliest 131 = .ok (.iload_n 3, 1) := by decide +kernel
theorem dX11_earliest_132 : decode cX11_earliest 132 = .ok (.iload 4, 2) := by decide +kernel
theorem dX11_earliest_134 : decode cX11_earliest 134 = .ok (.invokevirtual 129, 3) := by decide +kernel
theorem dX11_earliest_137 : decode cX11_earliest 137 = .ok (.iadd, 1) := by decide +kernel
theorem dX11_earliest_138 : decode cX11_earliest 138 = .ok (.imul, 1) := by decide +kernel
theorem dX11_earliest_139 : decode cX11_earliest 139 = .ok (.iload_n 3, 1) := by decide +kernel
theorem dX11_earliest_140 : decode cX11_earliest 140 = .ok (.iload 4, 2) := by decide +kernel
theorem dX11_earliest_142 : decode cX11_earliest 142 = .ok (.aload_n 0, 1) := by decide +kernel
theorem dX11_earliest_143 : decode cX11_earliest 143 = .ok (.iload_n 3, 1) := by decide +kernel
theorem dX11_earliest_144 : decode cX11_earliest 144 = .ok (.iload 4, 2) := by decide +kernel
theorem dX11_earliest_146 : decode cX11_earliest 146 = .ok (.invokevirtual 125, 3) := by decide +kernel
theorem dX11_earliest_149 : decode cX11_earliest 149 = .ok (.invokestatic 182, 3) := by decide +kernel
theorem dX11_earliest_152 : decode cX11_earliest 152 = .ok (.iadd, 1) := by decide +kernel
theorem dX11_earliest_153 : decode cX11_earliest 153 = .ok (.iconst 1, 1) := by decide +kernel
theorem dX11_earliest_154 : decode cX11_earliest 154 = .ok (.bastore, 1) := by decide +kernel
theorem dX11_earliest_155 : decode cX11_earliest 155 = .ok (.iinc 4 1, 3) := by decide +kernel
theorem dX11_earliest_158 : decode cX11_earliest 158 = .ok (.goto (-67), 3) := by decide +kernel
theorem dX11_earliest_161 : decode cX11_earliest 161 = .ok (.iinc 3 1, 3) := by decide +kernel
theorem dX11_earliest_164 : decode cX11_earliest 164 = .ok (.goto (-82), 3) := by decide +kernel
theorem dX11_earliest_167 : decode cX11_earliest 167 = .ok (.iinc 2 1, 3) := by decide +kernel
theorem dX11_earliest_170 : decode cX11_earliest 170 = .ok (.goto (-131), 3) := by decide +kernel
theorem dX11_earliest_173 : decode cX11_earliest 173 = .ok (.iconst (-1), 1) := by decide +kernel
theorem dX11_earliest_174 : decode cX11_earliest 174 = .ok (.ireturn, 1) := by decide +kernel
theorem dX11_goesBack_0 : decode cX11_goesBack 0 = .ok (.aload_n 0, 1) := by decide +kernel
theorem dX11_goesBack_1 : decode cX11_goesBack 1 = .ok (.getfield 45, 3) := by decide +kernel
theorem dX11_goesBack_4 : decode cX11_goesBack 4 = .ok (.iload_n 1, 1) := by decide +kernel
theorem dX11_goesBack_5 : decode cX11_goesBack 5 = .ok (.iaload, 1) := by decide +kernel
theorem dX11_goesBack_6 : decode cX11_goesBack 6 = .ok (.istore_n 2, 1) := by decide +kernel
theorem dX11_goesBack_7 : decode cX11_goesBack 7 = .ok (.iconst 0, 1) := by decide +kernel
theorem dX11_goesBack_8 : decode cX11_goesBack 8 = .ok (.istore_n 3, 1) := by decide +kernel
theorem dX11_goesBack_9 : decode cX11_goesBack 9 = .ok (.iload_n 3, 1) := by decide +kernel
theorem dX11_goesBack_10 : decode cX11_goesBack 10 = .ok (.sipush 6588, 3) := by decide +kernel
theorem dX11_goesBack_13 : decode cX11_goesBack 13 = .ok (.if_icmp .ge 16, 3) := by decide +kernel
theorem dX11_goesBack_16 : decode cX11_goesBack 16 = .ok (.aload_n 0, 1) := by decide +kernel
theorem dX11_goesBack_17 : decode cX11_goesBack 17 = .ok (.getfield 63, 3) := by decide +kernel
theorem dX11_goesBack_20 : decode cX11_goesBack 20 = .ok (.iload_n 3, 1) := by decide +kernel
theorem dX11_goesBack_21 : decode cX11_goesBack 21 = .ok (.iconst 0, 1) := by decide +kernel
theorem dX11_goesBack_22 : decode cX11_goesBack 22 = .ok (.bastore, 1) := by decide +kernel
theorem dX11_goesBack_23 : decode cX11_goesBack 23 = .ok (.iinc 3 1, 3) := by decide +kernel
theorem dX11_goesBack_26 : decode cX11_goesBack 26 = .ok (.goto (-17), 3) := by decide +kernel
theorem dX11_goesBack_29 : decode cX11_goesBack 29 = .ok (.aload_n 0, 1) := by decide +kernel
theorem dX11_goesBack_30 : decode cX11_goesBack 30 = .ok (.getfield 63, 3) := by decide +kernel
theorem dX11_goesBack_33 : decode cX11_goesBack 33 = .ok (.bipush 108, 2) := by decide +kernel
theorem dX11_goesBack_35 : decode cX11_goesBack 35 = .ok (.iload_n 2, 1) := by decide +kernel
theorem dX11_goesBack_36 : decode cX11_goesBack 36 = .ok (.imul, 1) := by decide +kernel
theorem dX11_goesBack_37 : decode cX11_goesBack 37 = .ok (.aload_n 0, 1) := by decide +kernel
theorem dX11_goesBack_38 : decode cX11_goesBack 38 = .ok (.getfield 54, 3) := by decide +kernel
theorem dX11_goesBack_41 : decode cX11_goesBack 41 = .ok (.iload_n 1, 1) := by decide +kernel
theorem dX11_goesBack_42 : decode cX11_goesBack 42 = .ok (.iaload, 1) := by decide +kernel
theorem dX11_goesBack_43 : decode cX11_goesBack 43 = .ok (.iadd, 1) := by decide +kernel
theorem dX11_goesBack_44 : decode cX11_goesBack 44 = .ok (.iconst 1, 1) := by decide +kernel
theorem dX11_goesBack_45 : decode cX11_goesBack 45 = .ok (.bastore, 1) := by decide +kernel
theorem dX11_goesBack_46 : decode cX11_goesBack 46 = .ok (.iload_n 2, 1) := by decide +kernel
theorem dX11_goesBack_47 : decode cX11_goesBack 47 = .ok (.iconst 1, 1) := by decide +kernel
theorem dX11_goesBack_48 : decode cX11_goesBack 48 = .ok (.isub, 1) := by decide +kernel
theorem dX11_goesBack_49 : decode cX11_goesBack 49 = .ok (.istore_n 3, 1) := by decide +kernel
theorem dX11_goesBack_50 : decode cX11_goesBack 50 = .ok (.iload_n 3, 1) := by decide +kernel
theorem dX11_goesBack_51 : decode cX11_goesBack 51 = .ok (.ifCond .lt 148, 3) := by decide +kernel
theorem dX11_goesBack_54 : decode cX11_goesBack 54 = .ok (.iconst 0, 1) := by decide +kernel
theorem dX11_goesBack_55 : decode cX11_goesBack 55 = .ok (.istore 4, 2) := by decide +kernel
theorem dX11_goesBack_57 : decode cX11_goesBack 57 = .ok (.iload 4, 2) := by decide +kernel
theorem dX11_goesBack_59 : decode cX11_goesBack 59 = .ok (.bipush 108, 2) := by decide +kernel
theorem dX11_goesBack_61 : decode cX11_goesBack 61 = .ok (.if_icmp .ge 132, 3) := by decide +kernel
theorem dX11_goesBack_64 : decode cX11_goesBack 64 = .ok (.iconst 0, 1) := by decide +kernel
theorem dX11_goesBack_65 : decode cX11_goesBack 65 = .ok (.istore 5, 2) := by decide +kernel
theorem dX11_goesBack_67 : decode cX11_goesBack 67 = .ok (.iconst 0, 1) := by decide +kernel
theorem dX11_goesBack_68 : decode cX11_goesBack 68 = .ok (.istore 6, 2) := by decide +kernel
theorem dX11_goesBack_70 : decode cX11_goesBack 70 = .ok (.iload 6, 2) := by decide +kernel
theorem dX11_goesBack_72 : decode cX11_goesBack 72 = .ok (.bipush 7, 2) := by decide +kernel
theorem dX11_goesBack_74 : decode cX11_goesBack 74 = .ok (.if_icmp .ge 99, 3) := by decide +kernel
theorem dX11_goesBack_77 : decode cX11_goesBack 77 = .ok (.aload_n 0, 1) := by decide +kernel
theorem dX11_goesBack_78 : decode cX11_goesBack 78 = .ok (.getfield 60, 3) := by decide +kernel
theorem dX11_goesBack_81 : decode cX11_goesBack 81 = .ok (.bipush 108, 2) := by decide +kernel
theorem dX11_goesBack_83 : decode cX11_goesBack 83 = .ok (.iload_n 3, 1) := by decide +kernel
theorem dX11_goesBack_84 : decode cX11_goesBack 84 = .ok (.imul, 1) := by decide +kernel
theorem dX11_goesBack_85 : decode cX11_goesBack 85 = .ok (.iload 4, 2) := by decide +kernel
theorem dX11_goesBack_87 : decode cX11_goesBack 87 = .ok (.iadd, 1) := by decide +kernel
theorem dX11_goesBack_88 : decode cX11_goesBack 88 = .ok (.baload, 1) := by decide +kernel
theorem dX11_goesBack_89 : decode cX11_goesBack 89 = .ok (.ifCond .eq 84, 3) := by decide +kernel
theorem dX11_goesBack_92 : decode cX11_goesBack 92 = .ok (.iload 5, 2) := by decide +kernel
theorem dX11_goesBack_94 : decode cX11_goesBack 94 = .ok (.ifCond .ne 79, 3) := by decide +kernel
theorem dX11_goesBack_97 : decode cX11_goesBack 97 = .ok (.iload_n 3, 1) := by decide +kernel
theorem dX11_goesBack_98 : decode cX11_goesBack 98 = .ok (.aload_n 0, 1) := by decide +kernel
theorem dX11_goesBack_99 : decode cX11_goesBack 99 = .ok (.iload 4, 2) := by decide +kernel
theorem dX11_goesBack_101 : decode cX11_goesBack 101 = .ok (.iload 6, 2) := by decide +kernel
theorem dX11_goesBack_103 : decode cX11_goesBack 103 = .ok (.invokevirtual 129, 3) := by decide +kernel
theorem dX11_goesBack_106 : decode cX11_goesBack 106 = .ok (.iadd, 1) := by decide +kernel
theorem dX11_goesBack_107 : decode cX11_goesBack 107 = .ok (.iload_n 2, 1) := by decide +kernel
theorem dX11_goesBack_108 : decode cX11_goesBack 108 = .ok (.if_icmp .gt 56, 3) := by decide +kernel
theorem dX11_goesBack_111 : decode cX11_goesBack 111 = .ok (.aload_n 0, 1) := by decide +kernel
theorem dX11_goesBack_112 : decode cX11_goesBack 112 = .ok (.iload 4, 2) := by decide +kernel
theorem dX11_goesBack_114 : decode cX11_goesBack 114 = .ok (.iload 6, 2) := by decide +kernel
theorem dX11_goesBack_116 : decode cX11_goesBack 116 = .ok (.iload_n 3, 1) := by decide +kernel
theorem dX11_goesBack_117 : decode cX11_goesBack 117 = .ok (.invokevirtual 179, 3) := by decide +kernel
theorem dX11_goesBack_120 : decode cX11_goesBack 120 = .ok (.ifCond .eq 44, 3) := by decide +kernel
theorem dX11_goesBack_123 : decode cX11_goesBack 123 = .ok (.aload_n 0, 1) := by decide +kernel
theorem dX11_goesBack_124 : decode cX11_goesBack 124 = .ok (.getfield 63, 3) := by decide +kernel
theorem dX11_goesBack_127 : decode cX11_goesBack 127 = .ok (.bipush 108, 2) := by decide +kernel
theorem dX11_goesBack_129 : decode cX11_goesBack 129 = .ok (.iload_n 3, 1) := by decide +kernel
theorem dX11_goesBack_130 : decode cX11_goesBack 130 = .ok (.aload_n 0, 1) := by decide +kernel
theorem dX11_goesBack_131 : decode cX11_goesBack 131 = .ok (.iload 4, 2) := by decide +kernel
theorem dX11_goesBack_133 : decode cX11_goesBack 133 = .ok (.iload 6, 2) := by decide +kernel
theorem dX11_goesBack_135 : decode cX11_goesBack 135 = .ok (.invokevirtual 129, 3) := by decide +kernel
theorem dX11_goesBack_138 : decode cX11_goesBack 138 = .ok (.iadd, 1) := by decide +kernel
theorem dX11_goesBack_139 : decode cX11_goesBack 139 = .ok (.imul, 1) := by decide +kernel
theorem dX11_goesBack_140 : decode cX11_goesBack 140 = .ok (.iload 4, 2) := by decide +kernel
theorem dX11_goesBack_142 : decode cX11_goesBack 142 = .ok (.iload 6, 2) := by decide +kernel
theorem dX11_goesBack_144 : decode cX11_goesBack 144 = .ok (.aload_n 0, 1) := by decide +kernel
theorem dX11_goesBack_145 : decode cX11_goesBack 145 = .ok (.iload 4, 2) := by decide +kernel
theorem dX11_goesBack_147 : decode cX11_goesBack 147 = .ok (.iload 6, 2) := by decide +kernel
theorem dX11_goesBack_149 : decode cX11_goesBack 149 = .ok (.invokevirtual 125, 3) := by decide +kernel
theorem dX11_goesBack_152 : decode cX11_goesBack 152 = .ok (.invokestatic 182, 3) := by decide +kernel
theorem dX11_goesBack_155 : decode cX11_goesBack 155 = .ok (.iadd, 1) := by decide +kernel
theorem dX11_goesBack_156 : decode cX11_goesBack 156 = .ok (.baload, 1) := by decide +kernel
theorem dX11_goesBack_157 : decode cX11_goesBack 157 = .ok (.ifCond .eq 7, 3) := by decide +kernel
theorem dX11_goesBack_160 : decode cX11_goesBack 160 = .ok (.iconst 1, 1) := by decide +kernel
theorem dX11_goesBack_161 : decode cX11_goesBack 161 = .ok (.goto 4, 3) := by decide +kernel
theorem dX11_goesBack_164 : decode cX11_goesBack 164 = .ok (.iconst 0, 1) := by decide +kernel
theorem dX11_goesBack_165 : decode cX11_goesBack 165 = .ok (.istore 5, 2) := by decide +kernel
theorem dX11_goesBack_167 : decode cX11_goesBack 167 = .ok (.iinc 6 1, 3) := by decide +kernel
theorem dX11_goesBack_170 : decode cX11_goesBack 170 = .ok (.goto (-100), 3) := by decide +kernel
theorem dX11_goesBack_173 : decode cX11_goesBack 173 = .ok (.aload_n 0, 1) := by decide +kernel
theorem dX11_goesBack_174 : decode cX11_goesBack 174 = .ok (.getfield 63, 3) := by decide +kernel
theorem dX11_goesBack_177 : decode cX11_goesBack 177 = .ok (.bipush 108, 2) := by decide +kernel
theorem dX11_goesBack_179 : decode cX11_goesBack 179 = .ok (.iload_n 3, 1) := by decide +kernel
theorem dX11_goesBack_180 : decode cX11_goesBack 180 = .ok (.imul, 1) := by decide +kernel
theorem dX11_goesBack_181 : decode cX11_goesBack 181 = .ok (.iload 4, 2) := by decide +kernel
theorem dX11_goesBack_183 : decode cX11_goesBack 183 = .ok (.iadd, 1) := by decide +kernel
theorem dX11_goesBack_184 : decode cX11_goesBack 184 = .ok (.iload 5, 2) := by decide +kernel
theorem dX11_goesBack_186 : decode cX11_goesBack 186 = .ok (.bastore, 1) := by decide +kernel
theorem dX11_goesBack_187 : decode cX11_goesBack 187 = .ok (.iinc 4 1, 3) := by decide +kernel
theorem dX11_goesBack_190 : decode cX11_goesBack 190 = .ok (.goto (-133), 3) := by decide +kernel
theorem dX11_goesBack_193 : decode cX11_goesBack 193 = .ok (.iinc 3 (-1), 3) := by decide +kernel
theorem dX11_goesBack_196 : decode cX11_goesBack 196 = .ok (.goto (-146), 3) := by decide +kernel
theorem dX11_goesBack_199 : decode cX11_goesBack 199 = .ok (.return_, 1) := by decide +kernel
theorem dX11_put_0 : decode cX11_put 0 = .ok (.aload_n 0, 1) := by decide +kernel
theorem dX11_put_1 : decode cX11_put 1 = .ok (.getfield 39, 3) := by decide +kernel
theorem dX11_put_4 : decode cX11_put 4 = .ok (.bipush 61, 2) := by decide +kernel
theorem dX11_put_6 : decode cX11_put 6 = .ok (.iload_n 1, 1) := by decide +kernel
theorem dX11_put_7 : decode cX11_put 7 = .ok (.imul, 1) := by decide +kernel
theorem dX11_put_8 : decode cX11_put 8 = .ok (.iload_n 2, 1) := by decide +kernel
theorem dX11_put_9 : decode cX11_put 9 = .ok (.iadd, 1) := by decide +kernel
theorem dX11_put_10 : decode cX11_put 10 = .ok (.iload_n 3, 1) := by decide +kernel
theorem dX11_put_11 : decode cX11_put 11 = .ok (.iastore, 1) := by decide +kernel
theorem dX11_put_12 : decode cX11_put 12 = .ok (.aload_n 0, 1) := by decide +kernel
theorem dX11_put_13 : decode cX11_put 13 = .ok (.getfield 42, 3) := by decide +kernel
theorem dX11_put_16 : decode cX11_put 16 = .ok (.bipush 61, 2) := by decide +kernel
theorem dX11_put_18 : decode cX11_put 18 = .ok (.iload_n 1, 1) := by decide +kernel
theorem dX11_put_19 : decode cX11_put 19 = .ok (.imul, 1) := by decide +kernel
theorem dX11_put_20 : decode cX11_put 20 = .ok (.iload_n 2, 1) := by decide +kernel
theorem dX11_put_21 : decode cX11_put 21 = .ok (.iadd, 1) := by decide +kernel
theorem dX11_put_22 : decode cX11_put 22 = .ok (.iload 4, 2) := by decide +kernel
theorem dX11_put_24 : decode cX11_put 24 = .ok (.iastore, 1) := by decide +kernel
theorem dX11_put_25 : decode cX11_put 25 = .ok (.return_, 1) := by decide +kernel
theorem dX11_writes_0 : decode cX11_writes 0 = .ok (.aload_n 0, 1) := by decide +kernel
theorem dX11_writes_1 : decode cX11_writes 1 = .ok (.getfield 45, 3) := by decide +kernel
theorem dX11_writes_4 : decode cX11_writes 4 = .ok (.iload_n 1, 1) := by decide +kernel
theorem dX11_writes_5 : decode cX11_writes 5 = .ok (.iaload, 1) := by decide +kernel
theorem dX11_writes_6 : decode cX11_writes 6 = .ok (.istore_n 2, 1) := by decide +kernel
theorem dX11_writes_7 : decode cX11_writes 7 = .ok (.aload_n 0, 1) := by decide +kernel
theorem dX11_writes_8 : decode cX11_writes 8 = .ok (.getfield 9, 3) := by decide +kernel
theorem dX11_writes_11 : decode cX11_writes 11 = .ok (.bipush 112, 2) := by decide +kernel
theorem dX11_writes_13 : decode cX11_writes 13 = .ok (.iload_n 1, 1) := by decide +kernel
theorem dX11_writes_14 : decode cX11_writes 14 = .ok (.iadd, 1) := by decide +kernel
theorem dX11_writes_15 : decode cX11_writes 15 = .ok (.iaload, 1) := by decide +kernel
theorem dX11_writes_16 : decode cX11_writes 16 = .ok (.istore_n 3, 1) := by decide +kernel
theorem dX11_writes_17 : decode cX11_writes 17 = .ok (.iconst 0, 1) := by decide +kernel
theorem dX11_writes_18 : decode cX11_writes 18 = .ok (.istore 4, 2) := by decide +kernel
theorem dX11_writes_20 : decode cX11_writes 20 = .ok (.iload 4, 2) := by decide +kernel
theorem dX11_writes_22 : decode cX11_writes 22 = .ok (.iload_n 2, 1) := by decide +kernel
theorem dX11_writes_23 : decode cX11_writes 23 = .ok (.if_icmp .ge 135, 3) := by decide +kernel
theorem dX11_writes_26 : decode cX11_writes 26 = .ok (.iconst 0, 1) := by decide +kernel
theorem dX11_writes_27 : decode cX11_writes 27 = .ok (.istore 5, 2) := by decide +kernel
theorem dX11_writes_29 : decode cX11_writes 29 = .ok (.iload 4, 2) := by decide +kernel
theorem dX11_writes_31 : decode cX11_writes 31 = .ok (.aload_n 0, 1) := by decide +kernel
theorem dX11_writes_32 : decode cX11_writes 32 = .ok (.iload_n 3, 1) := by decide +kernel
theorem dX11_writes_33 : decode cX11_writes 33 = .ok (.iload 5, 2) := by decide +kernel
theorem dX11_writes_35 : decode cX11_writes 35 = .ok (.invokevirtual 129, 3) := by decide +kernel
theorem dX11_writes_38 : decode cX11_writes 38 = .ok (.iadd, 1) := by decide +kernel
theorem dX11_writes_39 : decode cX11_writes 39 = .ok (.iload_n 2, 1) := by decide +kernel
theorem dX11_writes_40 : decode cX11_writes 40 = .ok (.if_icmp .gt 50, 3) := by decide +kernel
theorem dX11_writes_43 : decode cX11_writes 43 = .ok (.aload_n 0, 1) := by decide +kernel
theorem dX11_writes_44 : decode cX11_writes 44 = .ok (.iload_n 3, 1) := by decide +kernel
theorem dX11_writes_45 : decode cX11_writes 45 = .ok (.iload 5, 2) := by decide +kernel
theorem dX11_writes_47 : decode cX11_writes 47 = .ok (.iload 4, 2) := by decide +kernel
theorem dX11_writes_49 : decode cX11_writes 49 = .ok (.invokevirtual 179, 3) := by decide +kernel
theorem dX11_writes_52 : decode cX11_writes 52 = .ok (.ifCond .eq 38, 3) := by decide +kernel
theorem dX11_writes_55 : decode cX11_writes 55 = .ok (.aload_n 0, 1) := by decide +kernel
theorem dX11_writes_56 : decode cX11_writes 56 = .ok (.getfield 63, 3) := by decide +kernel
theorem dX11_writes_59 : decode cX11_writes 59 = .ok (.bipush 108, 2) := by decide +kernel
theorem dX11_writes_61 : decode cX11_writes 61 = .ok (.iload 4, 2) := by decide +kernel
theorem dX11_writes_63 : decode cX11_writes 63 = .ok (.aload_n 0, 1) := by decide +kernel
theorem dX11_writes_64 : decode cX11_writes 64 = .ok (.iload_n 3, 1) := by decide +kernel
theorem dX11_writes_65 : decode cX11_writes 65 = .ok (.iload 5, 2) := by decide +kernel
theorem dX11_writes_67 : decode cX11_writes 67 = .ok (.invokevirtual 129, 3) := by decide +kernel
theorem dX11_writes_70 : decode cX11_writes 70 = .ok (.iadd, 1) := by decide +kernel
theorem dX11_writes_71 : decode cX11_writes 71 = .ok (.imul, 1) := by decide +kernel
theorem dX11_writes_72 : decode cX11_writes 72 = .ok (.iload_n 3, 1) := by decide +kernel
theorem dX11_writes_73 : decode cX11_writes 73 = .ok (.iload 5, 2) := by decide +kernel
theorem dX11_writes_75 : decode cX11_writes 75 = .ok (.aload_n 0, 1) := by decide +kernel
theorem dX11_writes_76 : decode cX11_writes 76 = .ok (.iload_n 3, 1) := by decide +kernel
theorem dX11_writes_77 : decode cX11_writes 77 = .ok (.iload 5, 2) := by decide +kernel
theorem dX11_writes_79 : decode cX11_writes 79 = .ok (.invokevirtual 125, 3) := by decide +kernel
theorem dX11_writes_82 : decode cX11_writes 82 = .ok (.invokestatic 182, 3) := by decide +kernel
theorem dX11_writes_85 : decode cX11_writes 85 = .ok (.iadd, 1) := by decide +kernel
theorem dX11_writes_86 : decode cX11_writes 86 = .ok (.baload, 1) := by decide +kernel
theorem dX11_writes_87 : decode cX11_writes 87 = .ok (.ifCond .ne 9, 3) := by decide +kernel
theorem dX11_writes_90 : decode cX11_writes 90 = .ok (.iinc 5 1, 3) := by decide +kernel
theorem dX11_writes_93 : decode cX11_writes 93 = .ok (.goto (-64), 3) := by decide +kernel
theorem dX11_writes_96 : decode cX11_writes 96 = .ok (.aload_n 0, 1) := by decide +kernel
theorem dX11_writes_97 : decode cX11_writes 97 = .ok (.iload_n 3, 1) := by decide +kernel
theorem dX11_writes_98 : decode cX11_writes 98 = .ok (.iload 5, 2) := by decide +kernel
theorem dX11_writes_100 : decode cX11_writes 100 = .ok (.invokevirtual 129, 3) := by decide +kernel
theorem dX11_writes_103 : decode cX11_writes 103 = .ok (.istore 6, 2) := by decide +kernel
theorem dX11_writes_105 : decode cX11_writes 105 = .ok (.iconst 0, 1) := by decide +kernel
theorem dX11_writes_106 : decode cX11_writes 106 = .ok (.istore 7, 2) := by decide +kernel
theorem dX11_writes_108 : decode cX11_writes 108 = .ok (.iload 7, 2) := by decide +kernel
theorem dX11_writes_110 : decode cX11_writes 110 = .ok (.iload 6, 2) := by decide +kernel
theorem dX11_writes_112 : decode cX11_writes 112 = .ok (.if_icmp .ge 22, 3) := by decide +kernel
theorem dX11_writes_115 : decode cX11_writes 115 = .ok (.aload_n 0, 1) := by decide +kernel
theorem dX11_writes_116 : decode cX11_writes 116 = .ok (.iload_n 1, 1) := by decide +kernel
theorem dX11_writes_117 : decode cX11_writes 117 = .ok (.iload 4, 2) := by decide +kernel
theorem dX11_writes_119 : decode cX11_writes 119 = .ok (.iload 7, 2) := by decide +kernel
theorem dX11_writes_121 : decode cX11_writes 121 = .ok (.iadd, 1) := by decide +kernel
theorem dX11_writes_122 : decode cX11_writes 122 = .ok (.iload_n 3, 1) := by decide +kernel
theorem dX11_writes_123 : decode cX11_writes 123 = .ok (.iload 5, 2) := by decide +kernel
theorem dX11_writes_125 : decode cX11_writes 125 = .ok (.invokevirtual 186, 3) := by decide +kernel
theorem dX11_writes_128 : decode cX11_writes 128 = .ok (.iinc 7 1, 3) := by decide +kernel
theorem dX11_writes_131 : decode cX11_writes 131 = .ok (.goto (-23), 3) := by decide +kernel
theorem dX11_writes_134 : decode cX11_writes 134 = .ok (.iload_n 3, 1) := by decide +kernel
theorem dX11_writes_135 : decode cX11_writes 135 = .ok (.iload 5, 2) := by decide +kernel
theorem dX11_writes_137 : decode cX11_writes 137 = .ok (.aload_n 0, 1) := by decide +kernel
theorem dX11_writes_138 : decode cX11_writes 138 = .ok (.iload_n 3, 1) := by decide +kernel
theorem dX11_writes_139 : decode cX11_writes 139 = .ok (.iload 5, 2) := by decide +kernel
theorem dX11_writes_141 : decode cX11_writes 141 = .ok (.invokevirtual 125, 3) := by decide +kernel
theorem dX11_writes_144 : decode cX11_writes 144 = .ok (.invokestatic 182, 3) := by decide +kernel
theorem dX11_writes_147 : decode cX11_writes 147 = .ok (.istore_n 3, 1) := by decide +kernel
theorem dX11_writes_148 : decode cX11_writes 148 = .ok (.iload 4, 2) := by decide +kernel
theorem dX11_writes_150 : decode cX11_writes 150 = .ok (.iload 6, 2) := by decide +kernel
theorem dX11_writes_152 : decode cX11_writes 152 = .ok (.iadd, 1) := by decide +kernel
theorem dX11_writes_153 : decode cX11_writes 153 = .ok (.istore 4, 2) := by decide +kernel
theorem dX11_writes_155 : decode cX11_writes 155 = .ok (.goto (-135), 3) := by decide +kernel
theorem dX11_writes_158 : decode cX11_writes 158 = .ok (.iload_n 2, 1) := by decide +kernel
theorem dX11_writes_159 : decode cX11_writes 159 = .ok (.istore 5, 2) := by decide +kernel
theorem dX11_writes_161 : decode cX11_writes 161 = .ok (.iload 5, 2) := by decide +kernel
theorem dX11_writes_163 : decode cX11_writes 163 = .ok (.bipush 60, 2) := by decide +kernel
theorem dX11_writes_165 : decode cX11_writes 165 = .ok (.if_icmp .gt 18, 3) := by decide +kernel
theorem dX11_writes_168 : decode cX11_writes 168 = .ok (.aload_n 0, 1) := by decide +kernel
theorem dX11_writes_169 : decode cX11_writes 169 = .ok (.iload_n 1, 1) := by decide +kernel
theorem dX11_writes_170 : decode cX11_writes 170 = .ok (.iload 5, 2) := by decide +kernel
theorem dX11_writes_172 : decode cX11_writes 172 = .ok (.iload_n 3, 1) := by decide +kernel
theorem dX11_writes_173 : decode cX11_writes 173 = .ok (.iconst 0, 1) := by decide +kernel
theorem dX11_writes_174 : decode cX11_writes 174 = .ok (.invokevirtual 186, 3) := by decide +kernel
theorem dX11_writes_177 : decode cX11_writes 177 = .ok (.iinc 5 1, 3) := by decide +kernel
theorem dX11_writes_180 : decode cX11_writes 180 = .ok (.goto (-19), 3) := by decide +kernel
theorem dX11_writes_183 : decode cX11_writes 183 = .ok (.return_, 1) := by decide +kernel
theorem dX11_nextDrone_0 : decode cX11_nextDrone 0 = .ok (.iconst (-1), 1) := by decide +kernel
theorem dX11_nextDrone_1 : decode cX11_nextDrone 1 = .ok (.istore_n 2, 1) := by decide +kernel
theorem dX11_nextDrone_2 : decode cX11_nextDrone 2 = .ok (.iconst (-1), 1) := by decide +kernel
theorem dX11_nextDrone_3 : decode cX11_nextDrone 3 = .ok (.istore_n 3, 1) := by decide +kernel
theorem dX11_nextDrone_4 : decode cX11_nextDrone 4 = .ok (.iconst 0, 1) := by decide +kernel
theorem dX11_nextDrone_5 : decode cX11_nextDrone 5 = .ok (.istore 4, 2) := by decide +kernel
theorem dX11_nextDrone_7 : decode cX11_nextDrone 7 = .ok (.iload 4, 2) := by decide +kernel
theorem dX11_nextDrone_9 : decode cX11_nextDrone 9 = .ok (.aload_n 0, 1) := by decide +kernel
theorem dX11_nextDrone_10 : decode cX11_nextDrone 10 = .ok (.getfield 9, 3) := by decide +kernel
theorem dX11_nextDrone_13 : decode cX11_nextDrone 13 = .ok (.bipush 111, 2) := by decide +kernel
theorem dX11_nextDrone_15 : decode cX11_nextDrone 15 = .ok (.iaload, 1) := by decide +kernel
theorem dX11_nextDrone_16 : decode cX11_nextDrone 16 = .ok (.if_icmp .ge 53, 3) := by decide +kernel
theorem dX11_nextDrone_19 : decode cX11_nextDrone 19 = .ok (.aload_n 0, 1) := by decide +kernel
theorem dX11_nextDrone_20 : decode cX11_nextDrone 20 = .ok (.aload_n 0, 1) := by decide +kernel
theorem dX11_nextDrone_21 : decode cX11_nextDrone 21 = .ok (.getfield 9, 3) := by decide +kernel
theorem dX11_nextDrone_24 : decode cX11_nextDrone 24 = .ok (.bipush 112, 2) := by decide +kernel
theorem dX11_nextDrone_26 : decode cX11_nextDrone 26 = .ok (.iload 4, 2) := by decide +kernel
theorem dX11_nextDrone_28 : decode cX11_nextDrone 28 = .ok (.iadd, 1) := by decide +kernel
theorem dX11_nextDrone_29 : decode cX11_nextDrone 29 = .ok (.iaload, 1) := by decide +kernel
theorem dX11_nextDrone_30 : decode cX11_nextDrone 30 = .ok (.aload_n 0, 1) := by decide +kernel
theorem dX11_nextDrone_31 : decode cX11_nextDrone 31 = .ok (.getfield 54, 3) := by decide +kernel
theorem dX11_nextDrone_34 : decode cX11_nextDrone 34 = .ok (.iload 4, 2) := by decide +kernel
theorem dX11_nextDrone_36 : decode cX11_nextDrone 36 = .ok (.iaload, 1) := by decide +kernel
theorem dX11_nextDrone_37 : decode cX11_nextDrone 37 = .ok (.invokevirtual 136, 3) := by decide +kernel
theorem dX11_nextDrone_40 : decode cX11_nextDrone 40 = .ok (.istore 5, 2) := by decide +kernel
theorem dX11_nextDrone_42 : decode cX11_nextDrone 42 = .ok (.iload_n 1, 1) := by decide +kernel
theorem dX11_nextDrone_43 : decode cX11_nextDrone 43 = .ok (.iload 4, 2) := by decide +kernel
theorem dX11_nextDrone_45 : decode cX11_nextDrone 45 = .ok (.ishr, 1) := by decide +kernel
theorem dX11_nextDrone_46 : decode cX11_nextDrone 46 = .ok (.iconst 1, 1) := by decide +kernel
theorem dX11_nextDrone_47 : decode cX11_nextDrone 47 = .ok (.iand, 1) := by decide +kernel
theorem dX11_nextDrone_48 : decode cX11_nextDrone 48 = .ok (.ifCond .ne 15, 3) := by decide +kernel
theorem dX11_nextDrone_51 : decode cX11_nextDrone 51 = .ok (.iload 5, 2) := by decide +kernel
theorem dX11_nextDrone_53 : decode cX11_nextDrone 53 = .ok (.iload_n 3, 1) := by decide +kernel
theorem dX11_nextDrone_54 : decode cX11_nextDrone 54 = .ok (.if_icmp .le 9, 3) := by decide +kernel
theorem dX11_nextDrone_57 : decode cX11_nextDrone 57 = .ok (.iload 4, 2) := by decide +kernel
theorem dX11_nextDrone_59 : decode cX11_nextDrone 59 = .ok (.istore_n 2, 1) := by decide +kernel
theorem dX11_nextDrone_60 : decode cX11_nextDrone 60 = .ok (.iload 5, 2) := by decide +kernel
theorem dX11_nextDrone_62 : decode cX11_nextDrone 62 = .ok (.istore_n 3, 1) := by decide +kernel
theorem dX11_nextDrone_63 : decode cX11_nextDrone 63 = .ok (.iinc 4 1, 3) := by decide +kernel
theorem dX11_nextDrone_66 : decode cX11_nextDrone 66 = .ok (.goto (-59), 3) := by decide +kernel
theorem dX11_nextDrone_69 : decode cX11_nextDrone 69 = .ok (.iload_n 2, 1) := by decide +kernel
theorem dX11_nextDrone_70 : decode cX11_nextDrone 70 = .ok (.ireturn, 1) := by decide +kernel
theorem dX11_plan_0 : decode cX11_plan 0 = .ok (.aload_n 0, 1) := by decide +kernel
theorem dX11_plan_1 : decode cX11_plan 1 = .ok (.invokevirtual 160, 3) := by decide +kernel
theorem dX11_plan_4 : decode cX11_plan 4 = .ok (.istore_n 1, 1) := by decide +kernel
theorem dX11_plan_5 : decode cX11_plan 5 = .ok (.iload_n 1, 1) := by decide +kernel
theorem dX11_plan_6 : decode cX11_plan 6 = .ok (.ifCond .eq 5, 3) := by decide +kernel
theorem dX11_plan_9 : decode cX11_plan 9 = .ok (.iload_n 1, 1) := by decide +kernel
theorem dX11_plan_10 : decode cX11_plan 10 = .ok (.ireturn, 1) := by decide +kernel
theorem dX11_plan_11 : decode cX11_plan 11 = .ok (.aload_n 0, 1) := by decide +kernel
theorem dX11_plan_12 : decode cX11_plan 12 = .ok (.iconst 0, 1) := by decide +kernel
theorem dX11_plan_13 : decode cX11_plan 13 = .ok (.putfield 69, 3) := by decide +kernel
theorem dX11_plan_16 : decode cX11_plan 16 = .ok (.aload_n 0, 1) := by decide +kernel
theorem dX11_plan_17 : decode cX11_plan 17 = .ok (.iconst (-1), 1) := by decide +kernel
theorem dX11_plan_18 : decode cX11_plan 18 = .ok (.putfield 35, 3) := by decide +kernel
theorem dX11_plan_21 : decode cX11_plan 21 = .ok (.aload_n 0, 1) := by decide +kernel
theorem dX11_plan_22 : decode cX11_plan 22 = .ok (.iconst 0, 1) := by decide +kernel
theorem dX11_plan_23 : decode cX11_plan 23 = .ok (.putfield 189, 3) := by decide +kernel
theorem dX11_plan_26 : decode cX11_plan 26 = .ok (.aload_n 0, 1) := by decide +kernel
theorem dX11_plan_27 : decode cX11_plan 27 = .ok (.iconst 0, 1) := by decide +kernel
theorem dX11_plan_28 : decode cX11_plan 28 = .ok (.putfield 192, 3) := by decide +kernel
theorem dX11_plan_31 : decode cX11_plan 31 = .ok (.aload_n 0, 1) := by decide +kernel
theorem dX11_plan_32 : decode cX11_plan 32 = .ok (.iconst 0, 1) := by decide +kernel
theorem dX11_plan_33 : decode cX11_plan 33 = .ok (.putfield 195, 3) := by decide +kernel
theorem dX11_plan_36 : decode cX11_plan 36 = .ok (.iconst 0, 1) := by decide +kernel
theorem dX11_plan_37 : decode cX11_plan 37 = .ok (.istore_n 2, 1) := by decide +kernel
theorem dX11_plan_38 : decode cX11_plan 38 = .ok (.iconst 0, 1) := by decide +kernel
theorem dX11_plan_39 : decode cX11_plan 39 = .ok (.istore_n 3, 1) := by decide +kernel
theorem dX11_plan_40 : decode cX11_plan 40 = .ok (.iload_n 3, 1) := by decide +kernel
theorem dX11_plan_41 : decode cX11_plan 41 = .ok (.sipush 6588, 3) := by decide +kernel
theorem dX11_plan_44 : decode cX11_plan 44 = .ok (.if_icmp .ge 16, 3) := by decide +kernel
theorem dX11_plan_47 : decode cX11_plan 47 = .ok (.aload_n 0, 1) := by decide +kernel
theorem dX11_plan_48 : decode cX11_plan 48 = .ok (.getfield 57, 3) := by decide +kernel
theorem dX11_plan_51 : decode cX11_plan 51 = .ok (.iload_n 3, 1) := by decide +kernel
theorem dX11_plan_52 : decode cX11_plan 52 = .ok (.iconst 0, 1) := by decide +kernel
theorem dX11_plan_53 : decode cX11_plan 53 = .ok (.iastore, 1) := by decide +kernel
theorem dX11_plan_54 : decode cX11_plan 54 = .ok (.iinc 3 1, 3) := by decide +kernel
theorem dX11_plan_57 : decode cX11_plan 57 = .ok (.goto (-17), 3) := by decide +kernel
theorem dX11_plan_60 : decode cX11_plan 60 = .ok (.iconst 0, 1) := by decide +kernel
theorem dX11_plan_61 : decode cX11_plan 61 = .ok (.istore_n 3, 1) := by decide +kernel
theorem dX11_plan_62 : decode cX11_plan 62 = .ok (.iload_n 3, 1) := by decide +kernel
theorem dX11_plan_63 : decode cX11_plan 63 = .ok (.aload_n 0, 1) := by decide +kernel
theorem dX11_plan_64 : decode cX11_plan 64 = .ok (.getfield 9, 3) := by decide +kernel
theorem dX11_plan_67 : decode cX11_plan 67 = .ok (.bipush 111, 2) := by decide +kernel
theorem dX11_plan_69 : decode cX11_plan 69 = .ok (.iaload, 1) := by decide +kernel
theorem dX11_plan_70 : decode cX11_plan 70 = .ok (.if_icmp .ge 29, 3) := by decide +kernel
theorem dX11_plan_73 : decode cX11_plan 73 = .ok (.aload_n 0, 1) := by decide +kernel
theorem dX11_plan_74 : decode cX11_plan 74 = .ok (.getfield 54, 3) := by decide +kernel
theorem dX11_plan_77 : decode cX11_plan 77 = .ok (.iload_n 3, 1) := by decide +kernel
theorem dX11_plan_78 : decode cX11_plan 78 = .ok (.aload_n 0, 1) := by decide +kernel
theorem dX11_plan_79 : decode cX11_plan 79 = .ok (.getfield 9, 3) := by decide +kernel
theorem dX11_plan_82 : decode cX11_plan 82 = .ok (.bipush 119, 2) := by decide +kernel
theorem dX11_plan_84 : decode cX11_plan 84 = .ok (.aload_n 0, 1) := by decide +kernel
theorem dX11_plan_85 : decode cX11_plan 85 = .ok (.getfield 32, 3) := by decide +kernel
theorem dX11_plan_88 : decode cX11_plan 88 = .ok (.iload_n 3, 1) := by decide +kernel
theorem dX11_plan_89 : decode cX11_plan 89 = .ok (.iaload, 1) := by decide +kernel
theorem dX11_plan_90 : decode cX11_plan 90 = .ok (.iadd, 1) := by decide +kernel
theorem dX11_plan_91 : decode cX11_plan 91 = .ok (.iaload, 1) := by decide +kernel
theorem dX11_plan_92 : decode cX11_plan 92 = .ok (.iastore, 1) := by decide +kernel
theorem dX11_plan_93 : decode cX11_plan 93 = .ok (.iinc 3 1, 3) := by decide +kernel
theorem dX11_plan_96 : decode cX11_plan 96 = .ok (.goto (-34), 3) := by decide +kernel
theorem dX11_plan_99 : decode cX11_plan 99 = .ok (.aload_n 0, 1) := by decide +kernel
theorem dX11_plan_100 : decode cX11_plan 100 = .ok (.getfield 189, 3) := by decide +kernel
theorem dX11_plan_103 : decode cX11_plan 103 = .ok (.aload_n 0, 1) := by decide +kernel
theorem dX11_plan_104 : decode cX11_plan 104 = .ok (.getfield 9, 3) := by decide +kernel
theorem dX11_plan_107 : decode cX11_plan 107 = .ok (.bipush 111, 2) := by decide +kernel
theorem dX11_plan_109 : decode cX11_plan 109 = .ok (.iaload, 1) := by decide +kernel
theorem dX11_plan_110 : decode cX11_plan 110 = .ok (.if_icmp .ge 140, 3) := by decide +kernel
theorem dX11_plan_113 : decode cX11_plan 113 = .ok (.aload_n 0, 1) := by decide +kernel
theorem dX11_plan_114 : decode cX11_plan 114 = .ok (.iload_n 2, 1) := by decide +kernel
theorem dX11_plan_115 : decode cX11_plan 115 = .ok (.invokevirtual 198, 3) := by decide +kernel
theorem dX11_plan_118 : decode cX11_plan 118 = .ok (.istore_n 3, 1) := by decide +kernel
theorem dX11_plan_119 : decode cX11_plan 119 = .ok (.aload_n 0, 1) := by decide +kernel
theorem dX11_plan_120 : decode cX11_plan 120 = .ok (.getfield 45, 3) := by decide +kernel
theorem dX11_plan_123 : decode cX11_plan 123 = .ok (.iload_n 3, 1) := by decide +kernel
theorem dX11_plan_124 : decode cX11_plan 124 = .ok (.aload_n 0, 1) := by decide +kernel
theorem dX11_plan_125 : decode cX11_plan 125 = .ok (.iload_n 3, 1) := by decide +kernel
theorem dX11_plan_126 : decode cX11_plan 126 = .ok (.invokevirtual 201, 3) := by decide +kernel
theorem dX11_plan_129 : decode cX11_plan 129 = .ok (.iastore, 1) := by decide +kernel
theorem dX11_plan_130 : decode cX11_plan 130 = .ok (.aload_n 0, 1) := by decide +kernel
theorem dX11_plan_131 : decode cX11_plan 131 = .ok (.getfield 45, 3) := by decide +kernel
theorem dX11_plan_134 : decode cX11_plan 134 = .ok (.iload_n 3, 1) := by decide +kernel
theorem dX11_plan_135 : decode cX11_plan 135 = .ok (.iaload, 1) := by decide +kernel
theorem dX11_plan_136 : decode cX11_plan 136 = .ok (.ifCond .ge 11, 3) := by decide +kernel
theorem dX11_plan_139 : decode cX11_plan 139 = .ok (.aload_n 0, 1) := by decide +kernel
theorem dX11_plan_140 : decode cX11_plan 140 = .ok (.iload_n 3, 1) := by decide +kernel
theorem dX11_plan_141 : decode cX11_plan 141 = .ok (.putfield 35, 3) := by decide +kernel
theorem dX11_plan_144 : decode cX11_plan 144 = .ok (.bipush (-7), 2) := by decide +kernel
theorem dX11_plan_146 : decode cX11_plan 146 = .ok (.ireturn, 1) := by decide +kernel
theorem dX11_plan_147 : decode cX11_plan 147 = .ok (.aload_n 0, 1) := by decide +kernel
theorem dX11_plan_148 : decode cX11_plan 148 = .ok (.iload_n 3, 1) := by decide +kernel
theorem dX11_plan_149 : decode cX11_plan 149 = .ok (.invokevirtual 204, 3) := by decide +kernel
theorem dX11_plan_152 : decode cX11_plan 152 = .ok (.aload_n 0, 1) := by decide +kernel
theorem dX11_plan_153 : decode cX11_plan 153 = .ok (.iload_n 3, 1) := by decide +kernel
theorem dX11_plan_154 : decode cX11_plan 154 = .ok (.invokevirtual 207, 3) := by decide +kernel
theorem dX11_plan_157 : decode cX11_plan 157 = .ok (.iconst 0, 1) := by decide +kernel
theorem dX11_plan_158 : decode cX11_plan 158 = .ok (.istore 4, 2) := by decide +kernel
theorem dX11_plan_160 : decode cX11_plan 160 = .ok (.iload 4, 2) := by decide +kernel
theorem dX11_plan_162 : decode cX11_plan 162 = .ok (.bipush 60, 2) := by decide +kernel
theorem dX11_plan_164 : decode cX11_plan 164 = .ok (.if_icmp .gt 30, 3) := by decide +kernel
theorem dX11_plan_167 : decode cX11_plan 167 = .ok (.aload_n 0, 1) := by decide +kernel
theorem dX11_plan_168 : decode cX11_plan 168 = .ok (.getfield 57, 3) := by decide +kernel
theorem dX11_plan_171 : decode cX11_plan 171 = .ok (.bipush 108, 2) := by decide +kernel
theorem dX11_plan_173 : decode cX11_plan 173 = .ok (.iload 4, 2) := by decide +kernel
theorem dX11_plan_175 : decode cX11_plan 175 = .ok (.imul, 1) := by decide +kernel
theorem dX11_plan_176 : decode cX11_plan 176 = .ok (.aload_n 0, 1) := by decide +kernel
theorem dX11_plan_177 : decode cX11_plan 177 = .ok (.iload_n 3, 1) := by decide +kernel
theorem dX11_plan_178 : decode cX11_plan 178 = .ok (.iload 4, 2) := by decide +kernel
theorem dX11_plan_180 : decode cX11_plan 180 = .ok (.invokevirtual 210, 3) := by decide +kernel
theorem dX11_plan_183 : decode cX11_plan 183 = .ok (.iadd, 1) := by decide +kernel
theorem dX11_plan_184 : decode cX11_plan 184 = .ok (.iload_n 3, 1) := by decide +kernel
theorem dX11_plan_185 : decode cX11_plan 185 = .ok (.iconst 1, 1) := by decide +kernel
theorem dX11_plan_186 : decode cX11_plan 186 = .ok (.iadd, 1) := by decide +kernel
theorem dX11_plan_187 : decode cX11_plan 187 = .ok (.iastore, 1) := by decide +kernel
theorem dX11_plan_188 : decode cX11_plan 188 = .ok (.iinc 4 1, 3) := by decide +kernel
theorem dX11_plan_191 : decode cX11_plan 191 = .ok (.goto (-31), 3) := by decide +kernel
theorem dX11_plan_194 : decode cX11_plan 194 = .ok (.iload_n 2, 1) := by decide +kernel
theorem dX11_plan_195 : decode cX11_plan 195 = .ok (.iconst 1, 1) := by decide +kernel
theorem dX11_plan_196 : decode cX11_plan 196 = .ok (.iload_n 3, 1) := by decide +kernel
theorem dX11_plan_197 : decode cX11_plan 197 = .ok (.ishl, 1) := by decide +kernel
theorem dX11_plan_198 : decode cX11_plan 198 = .ok (.ior, 1) := by decide +kernel
theorem dX11_plan_199 : decode cX11_plan 199 = .ok (.istore_n 2, 1) := by decide +kernel
theorem dX11_plan_200 : decode cX11_plan 200 = .ok (.aload_n 0, 1) := by decide +kernel
theorem dX11_plan_201 : decode cX11_plan 201 = .ok (.getfield 51, 3) := by decide +kernel
theorem dX11_plan_204 : decode cX11_plan 204 = .ok (.aload_n 0, 1) := by decide +kernel
theorem dX11_plan_205 : decode cX11_plan 205 = .ok (.getfield 189, 3) := by decide +kernel
theorem dX11_plan_208 : decode cX11_plan 208 = .ok (.iload_n 3, 1) := by decide +kernel
theorem dX11_plan_209 : decode cX11_plan 209 = .ok (.iastore, 1) := by decide +kernel
theorem dX11_plan_210 : decode cX11_plan 210 = .ok (.aload_n 0, 1) := by decide +kernel
theorem dX11_plan_211 : decode cX11_plan 211 = .ok (.getfield 48, 3) := by decide +kernel
theorem dX11_plan_214 : decode cX11_plan 214 = .ok (.iload_n 3, 1) := by decide +kernel
theorem dX11_plan_215 : decode cX11_plan 215 = .ok (.aload_n 0, 1) := by decide +kernel
theorem dX11_plan_216 : decode cX11_plan 216 = .ok (.getfield 189, 3) := by decide +kernel
theorem dX11_plan_219 : decode cX11_plan 219 = .ok (.iastore, 1) := by decide +kernel
theorem dX11_plan_220 : decode cX11_plan 220 = .ok (.aload_n 0, 1) := by decide +kernel
theorem dX11_plan_221 : decode cX11_plan 221 = .ok (.dup, 1) := by decide +kernel
theorem dX11_plan_222 : decode cX11_plan 222 = .ok (.getfield 189, 3) := by decide +kernel
theorem dX11_plan_225 : decode cX11_plan 225 = .ok (.iconst 1, 1) := by decide +kernel
theorem dX11_plan_226 : decode cX11_plan 226 = .ok (.iadd, 1) := by decide +kernel
theorem dX11_plan_227 : decode cX11_plan 227 = .ok (.putfield 189, 3) := by decide +kernel
theorem dX11_plan_230 : decode cX11_plan 230 = .ok (.aload_n 0, 1) := by decide +kernel
theorem dX11_plan_231 : decode cX11_plan 231 = .ok (.aload_n 0, 1) := by decide +kernel
theorem dX11_plan_232 : decode cX11_plan 232 = .ok (.getfield 195, 3) := by decide +kernel
theorem dX11_plan_235 : decode cX11_plan 235 = .ok (.aload_n 0, 1) := by decide +kernel
theorem dX11_plan_236 : decode cX11_plan 236 = .ok (.getfield 45, 3) := by decide +kernel
theorem dX11_plan_239 : decode cX11_plan 239 = .ok (.iload_n 3, 1) := by decide +kernel
theorem dX11_plan_240 : decode cX11_plan 240 = .ok (.iaload, 1) := by decide +kernel
theorem dX11_plan_241 : decode cX11_plan 241 = .ok (.invokestatic 151, 3) := by decide +kernel
theorem dX11_plan_244 : decode cX11_plan 244 = .ok (.putfield 195, 3) := by decide +kernel
theorem dX11_plan_247 : decode cX11_plan 247 = .ok (.goto (-148), 3) := by decide +kernel
theorem dX11_plan_250 : decode cX11_plan 250 = .ok (.aload_n 0, 1) := by decide +kernel
theorem dX11_plan_251 : decode cX11_plan 251 = .ok (.iconst 1, 1) := by decide +kernel
theorem dX11_plan_252 : decode cX11_plan 252 = .ok (.putfield 69, 3) := by decide +kernel
theorem dX11_plan_255 : decode cX11_plan 255 = .ok (.aload_n 0, 1) := by decide +kernel
theorem dX11_plan_256 : decode cX11_plan 256 = .ok (.getfield 195, 3) := by decide +kernel
theorem dX11_plan_259 : decode cX11_plan 259 = .ok (.ireturn, 1) := by decide +kernel
theorem dX11_stuck_0 : decode cX11_stuck 0 = .ok (.aload_n 0, 1) := by decide +kernel
theorem dX11_stuck_1 : decode cX11_stuck 1 = .ok (.getfield 35, 3) := by decide +kernel
theorem dX11_stuck_4 : decode cX11_stuck 4 = .ok (.ireturn, 1) := by decide +kernel
theorem dX11_at_0 : decode cX11_at 0 = .ok (.aload_n 0, 1) := by decide +kernel
theorem dX11_at_1 : decode cX11_at 1 = .ok (.iload_n 1, 1) := by decide +kernel
theorem dX11_at_2 : decode cX11_at 2 = .ok (.invokevirtual 102, 3) := by decide +kernel
theorem dX11_at_5 : decode cX11_at 5 = .ok (.ifCond .ne 5, 3) := by decide +kernel
theorem dX11_at_8 : decode cX11_at 8 = .ok (.iconst (-1), 1) := by decide +kernel
theorem dX11_at_9 : decode cX11_at 9 = .ok (.ireturn, 1) := by decide +kernel
theorem dX11_at_10 : decode cX11_at 10 = .ok (.iload_n 2, 1) := by decide +kernel
theorem dX11_at_11 : decode cX11_at 11 = .ok (.iconst 0, 1) := by decide +kernel
theorem dX11_at_12 : decode cX11_at 12 = .ok (.bipush 60, 2) := by decide +kernel
theorem dX11_at_14 : decode cX11_at 14 = .ok (.invokestatic 73, 3) := by decide +kernel
theorem dX11_at_17 : decode cX11_at 17 = .ok (.ifCond .ne 6, 3) := by decide +kernel
theorem dX11_at_20 : decode cX11_at 20 = .ok (.bipush (-2), 2) := by decide +kernel
theorem dX11_at_22 : decode cX11_at 22 = .ok (.ireturn, 1) := by decide +kernel
theorem dX11_at_23 : decode cX11_at 23 = .ok (.aload_n 0, 1) := by decide +kernel
theorem dX11_at_24 : decode cX11_at 24 = .ok (.getfield 69, 3) := by decide +kernel
theorem dX11_at_27 : decode cX11_at 27 = .ok (.ifCond .eq 17, 3) := by decide +kernel
theorem dX11_at_30 : decode cX11_at 30 = .ok (.aload_n 0, 1) := by decide +kernel
theorem dX11_at_31 : decode cX11_at 31 = .ok (.iload_n 1, 1) := by decide +kernel
theorem dX11_at_32 : decode cX11_at 32 = .ok (.aload_n 0, 1) := by decide +kernel
theorem dX11_at_33 : decode cX11_at 33 = .ok (.getfield 192, 3) := by decide +kernel
theorem dX11_at_36 : decode cX11_at 36 = .ok (.iload_n 2, 1) := by decide +kernel
theorem dX11_at_37 : decode cX11_at 37 = .ok (.iadd, 1) := by decide +kernel
theorem dX11_at_38 : decode cX11_at 38 = .ok (.invokevirtual 210, 3) := by decide +kernel
theorem dX11_at_41 : decode cX11_at 41 = .ok (.goto 5, 3) := by decide +kernel
theorem dX11_at_44 : decode cX11_at 44 = .ok (.bipush (-7), 2) := by decide +kernel
theorem dX11_at_46 : decode cX11_at 46 = .ok (.ireturn, 1) := by decide +kernel
theorem dX11_actionOf_0 : decode cX11_actionOf 0 = .ok (.iload_n 2, 1) := by decide +kernel
theorem dX11_actionOf_1 : decode cX11_actionOf 1 = .ok (.aload_n 0, 1) := by decide +kernel
theorem dX11_actionOf_2 : decode cX11_actionOf 2 = .ok (.getfield 45, 3) := by decide +kernel
theorem dX11_actionOf_5 : decode cX11_actionOf 5 = .ok (.iload_n 1, 1) := by decide +kernel
theorem dX11_actionOf_6 : decode cX11_actionOf 6 = .ok (.iaload, 1) := by decide +kernel
theorem dX11_actionOf_7 : decode cX11_actionOf 7 = .ok (.if_icmp .lt 7, 3) := by decide +kernel
theorem dX11_actionOf_10 : decode cX11_actionOf 10 = .ok (.iconst 0, 1) := by decide +kernel
theorem dX11_actionOf_11 : decode cX11_actionOf 11 = .ok (.goto 14, 3) := by decide +kernel
theorem dX11_actionOf_14 : decode cX11_actionOf 14 = .ok (.aload_n 0, 1) := by decide +kernel
theorem dX11_actionOf_15 : decode cX11_actionOf 15 = .ok (.getfield 42, 3) := by decide +kernel
theorem dX11_actionOf_18 : decode cX11_actionOf 18 = .ok (.bipush 61, 2) := by decide +kernel
theorem dX11_actionOf_20 : decode cX11_actionOf 20 = .ok (.iload_n 1, 1) := by decide +kernel
theorem dX11_actionOf_21 : decode cX11_actionOf 21 = .ok (.imul, 1) := by decide +kernel
theorem dX11_actionOf_22 : decode cX11_actionOf 22 = .ok (.iload_n 2, 1) := by decide +kernel
theorem dX11_actionOf_23 : decode cX11_actionOf 23 = .ok (.iadd, 1) := by decide +kernel
theorem dX11_actionOf_24 : decode cX11_actionOf 24 = .ok (.iaload, 1) := by decide +kernel
theorem dX11_actionOf_25 : decode cX11_actionOf 25 = .ok (.ireturn, 1) := by decide +kernel
theorem dX11_action_0 : decode cX11_action 0 = .ok (.aload_n 0, 1) := by decide +kernel
theorem dX11_action_1 : decode cX11_action 1 = .ok (.iload_n 1, 1) := by decide +kernel
theorem dX11_action_2 : decode cX11_action 2 = .ok (.invokevirtual 102, 3) := by decide +kernel
theorem dX11_action_5 : decode cX11_action 5 = .ok (.ifCond .ne 5, 3) := by decide +kernel
theorem dX11_action_8 : decode cX11_action 8 = .ok (.iconst (-1), 1) := by decide +kernel
theorem dX11_action_9 : decode cX11_action 9 = .ok (.ireturn, 1) := by decide +kernel
theorem dX11_action_10 : decode cX11_action 10 = .ok (.iload_n 2, 1) := by decide +kernel
theorem dX11_action_11 : decode cX11_action 11 = .ok (.iconst 0, 1) := by decide +kernel
theorem dX11_action_12 : decode cX11_action 12 = .ok (.bipush 59, 2) := by decide +kernel
theorem dX11_action_14 : decode cX11_action 14 = .ok (.invokestatic 73, 3) := by decide +kernel
theorem dX11_action_17 : decode cX11_action 17 = .ok (.ifCond .ne 6, 3) := by decide +kernel
theorem dX11_action_20 : decode cX11_action 20 = .ok (.bipush (-2), 2) := by decide +kernel
theorem dX11_action_22 : decode cX11_action 22 = .ok (.ireturn, 1) := by decide +kernel
theorem dX11_action_23 : decode cX11_action 23 = .ok (.aload_n 0, 1) := by decide +kernel
theorem dX11_action_24 : decode cX11_action 24 = .ok (.getfield 69, 3) := by decide +kernel
theorem dX11_action_27 : decode cX11_action 27 = .ok (.ifCond .eq 17, 3) := by decide +kernel
theorem dX11_action_30 : decode cX11_action 30 = .ok (.aload_n 0, 1) := by decide +kernel
theorem dX11_action_31 : decode cX11_action 31 = .ok (.iload_n 1, 1) := by decide +kernel
theorem dX11_action_32 : decode cX11_action 32 = .ok (.aload_n 0, 1) := by decide +kernel
theorem dX11_action_33 : decode cX11_action 33 = .ok (.getfield 192, 3) := by decide +kernel
theorem dX11_action_36 : decode cX11_action 36 = .ok (.iload_n 2, 1) := by decide +kernel
theorem dX11_action_37 : decode cX11_action 37 = .ok (.iadd, 1) := by decide +kernel
theorem dX11_action_38 : decode cX11_action 38 = .ok (.invokevirtual 213, 3) := by decide +kernel
theorem dX11_action_41 : decode cX11_action 41 = .ok (.goto 5, 3) := by decide +kernel
theorem dX11_action_44 : decode cX11_action 44 = .ok (.bipush (-7), 2) := by decide +kernel
theorem dX11_action_46 : decode cX11_action 46 = .ok (.ireturn, 1) := by decide +kernel
theorem dX11_waits_0 : decode cX11_waits 0 = .ok (.iconst 0, 1) := by decide +kernel
theorem dX11_waits_1 : decode cX11_waits 1 = .ok (.istore_n 2, 1) := by decide +kernel
theorem dX11_waits_2 : decode cX11_waits 2 = .ok (.aload_n 0, 1) := by decide +kernel
theorem dX11_waits_3 : decode cX11_waits 3 = .ok (.getfield 192, 3) := by decide +kernel
theorem dX11_waits_6 : decode cX11_waits 6 = .ok (.istore_n 3, 1) := by decide +kernel
theorem dX11_waits_7 : decode cX11_waits 7 = .ok (.iload_n 3, 1) := by decide +kernel
theorem dX11_waits_8 : decode cX11_waits 8 = .ok (.aload_n 0, 1) := by decide +kernel
theorem dX11_waits_9 : decode cX11_waits 9 = .ok (.getfield 45, 3) := by decide +kernel
theorem dX11_waits_12 : decode cX11_waits 12 = .ok (.iload_n 1, 1) := by decide +kernel
theorem dX11_waits_13 : decode cX11_waits 13 = .ok (.iaload, 1) := by decide +kernel
theorem dX11_waits_14 : decode cX11_waits 14 = .ok (.if_icmp .ge 26, 3) := by decide +kernel
theorem dX11_waits_17 : decode cX11_waits 17 = .ok (.iload_n 2, 1) := by decide +kernel
theorem dX11_waits_18 : decode cX11_waits 18 = .ok (.aload_n 0, 1) := by decide +kernel
theorem dX11_waits_19 : decode cX11_waits 19 = .ok (.iload_n 1, 1) := by decide +kernel
theorem dX11_waits_20 : decode cX11_waits 20 = .ok (.iload_n 3, 1) := by decide +kernel
theorem dX11_waits_21 : decode cX11_waits 21 = .ok (.invokevirtual 213, 3) := by decide +kernel
theorem dX11_waits_24 : decode cX11_waits 24 = .ok (.ifCond .ne 7, 3) := by decide +kernel
theorem dX11_waits_27 : decode cX11_waits 27 = .ok (.iconst 1, 1) := by decide +kernel
theorem dX11_waits_28 : decode cX11_waits 28 = .ok (.goto 4, 3) := by decide +kernel
theorem dX11_waits_31 : decode cX11_waits 31 = .ok (.iconst 0, 1) := by decide +kernel
theorem dX11_waits_32 : decode cX11_waits 32 = .ok (.iadd, 1) := by decide +kernel
theorem dX11_waits_33 : decode cX11_waits 33 = .ok (.istore_n 2, 1) := by decide +kernel
theorem dX11_waits_34 : decode cX11_waits 34 = .ok (.iinc 3 1, 3) := by decide +kernel
theorem dX11_waits_37 : decode cX11_waits 37 = .ok (.goto (-30), 3) := by decide +kernel
theorem dX11_waits_40 : decode cX11_waits 40 = .ok (.iload_n 2, 1) := by decide +kernel
theorem dX11_waits_41 : decode cX11_waits 41 = .ok (.ireturn, 1) := by decide +kernel
theorem dX11_flight_0 : decode cX11_flight 0 = .ok (.aload_n 0, 1) := by decide +kernel
theorem dX11_flight_1 : decode cX11_flight 1 = .ok (.iload_n 1, 1) := by decide +kernel
theorem dX11_flight_2 : decode cX11_flight 2 = .ok (.invokevirtual 102, 3) := by decide +kernel
theorem dX11_flight_5 : decode cX11_flight 5 = .ok (.ifCond .ne 5, 3) := by decide +kernel
theorem dX11_flight_8 : decode cX11_flight 8 = .ok (.iconst (-1), 1) := by decide +kernel
theorem dX11_flight_9 : decode cX11_flight 9 = .ok (.ireturn, 1) := by decide +kernel
theorem dX11_flight_10 : decode cX11_flight 10 = .ok (.iload_n 2, 1) := by decide +kernel
theorem dX11_flight_11 : decode cX11_flight 11 = .ok (.iconst 0, 1) := by decide +kernel
theorem dX11_flight_12 : decode cX11_flight 12 = .ok (.iconst 4, 1) := by decide +kernel
theorem dX11_flight_13 : decode cX11_flight 13 = .ok (.invokestatic 73, 3) := by decide +kernel
theorem dX11_flight_16 : decode cX11_flight 16 = .ok (.ifCond .ne 6, 3) := by decide +kernel
theorem dX11_flight_19 : decode cX11_flight 19 = .ok (.bipush (-2), 2) := by decide +kernel
theorem dX11_flight_21 : decode cX11_flight 21 = .ok (.ireturn, 1) := by decide +kernel
theorem dX11_flight_22 : decode cX11_flight 22 = .ok (.aload_n 0, 1) := by decide +kernel
theorem dX11_flight_23 : decode cX11_flight 23 = .ok (.getfield 69, 3) := by decide +kernel
theorem dX11_flight_26 : decode cX11_flight 26 = .ok (.ifCond .ne 6, 3) := by decide +kernel
theorem dX11_flight_29 : decode cX11_flight 29 = .ok (.bipush (-7), 2) := by decide +kernel
theorem dX11_flight_31 : decode cX11_flight 31 = .ok (.ireturn, 1) := by decide +kernel
theorem dX11_flight_32 : decode cX11_flight 32 = .ok (.iload_n 2, 1) := by decide +kernel
theorem dX11_flight_33 : decode cX11_flight 33 = .ok (.tableswitch 80 0 3 #[31, 47, 53, 73], 31) := by decide +kernel
theorem dX11_flight_64 : decode cX11_flight 64 = .ok (.iconst 0, 1) := by decide +kernel
theorem dX11_flight_65 : decode cX11_flight 65 = .ok (.aload_n 0, 1) := by decide +kernel
theorem dX11_flight_66 : decode cX11_flight 66 = .ok (.getfield 45, 3) := by decide +kernel
theorem dX11_flight_69 : decode cX11_flight 69 = .ok (.iload_n 1, 1) := by decide +kernel
theorem dX11_flight_70 : decode cX11_flight 70 = .ok (.iaload, 1) := by decide +kernel
theorem dX11_flight_71 : decode cX11_flight 71 = .ok (.aload_n 0, 1) := by decide +kernel
theorem dX11_flight_72 : decode cX11_flight 72 = .ok (.getfield 192, 3) := by decide +kernel
theorem dX11_flight_75 : decode cX11_flight 75 = .ok (.isub, 1) := by decide +kernel
theorem dX11_flight_76 : decode cX11_flight 76 = .ok (.invokestatic 151, 3) := by decide +kernel
theorem dX11_flight_79 : decode cX11_flight 79 = .ok (.ireturn, 1) := by decide +kernel
theorem dX11_flight_80 : decode cX11_flight 80 = .ok (.aload_n 0, 1) := by decide +kernel
theorem dX11_flight_81 : decode cX11_flight 81 = .ok (.iload_n 1, 1) := by decide +kernel
theorem dX11_flight_82 : decode cX11_flight 82 = .ok (.invokevirtual 216, 3) := by decide +kernel
theorem dX11_flight_85 : decode cX11_flight 85 = .ok (.ireturn, 1) := by decide +kernel
theorem dX11_flight_86 : decode cX11_flight 86 = .ok (.aload_n 0, 1) := by decide +kernel
theorem dX11_flight_87 : decode cX11_flight 87 = .ok (.aload_n 0, 1) := by decide +kernel
theorem dX11_flight_88 : decode cX11_flight 88 = .ok (.iload_n 1, 1) := by decide +kernel
theorem dX11_flight_89 : decode cX11_flight 89 = .ok (.aload_n 0, 1) := by decide +kernel
theorem dX11_flight_90 : decode cX11_flight 90 = .ok (.getfield 192, 3) := by decide +kernel
theorem dX11_flight_93 : decode cX11_flight 93 = .ok (.invokevirtual 210, 3) := by decide +kernel
theorem dX11_flight_96 : decode cX11_flight 96 = .ok (.aload_n 0, 1) := by decide +kernel
theorem dX11_flight_97 : decode cX11_flight 97 = .ok (.getfield 54, 3) := by decide +kernel
theorem dX11_flight_100 : decode cX11_flight 100 = .ok (.iload_n 1, 1) := by decide +kernel
theorem dX11_flight_101 : decode cX11_flight 101 = .ok (.iaload, 1) := by decide +kernel
theorem dX11_flight_102 : decode cX11_flight 102 = .ok (.invokevirtual 136, 3) := by decide +kernel
theorem dX11_flight_105 : decode cX11_flight 105 = .ok (.ireturn, 1) := by decide +kernel
theorem dX11_flight_106 : decode cX11_flight 106 = .ok (.aload_n 0, 1) := by decide +kernel
theorem dX11_flight_107 : decode cX11_flight 107 = .ok (.getfield 48, 3) := by decide +kernel
theorem dX11_flight_110 : decode cX11_flight 110 = .ok (.iload_n 1, 1) := by decide +kernel
theorem dX11_flight_111 : decode cX11_flight 111 = .ok (.iaload, 1) := by decide +kernel
theorem dX11_flight_112 : decode cX11_flight 112 = .ok (.ireturn, 1) := by decide +kernel
theorem dX11_flight_113 : decode cX11_flight 113 = .ok (.aload_n 0, 1) := by decide +kernel
theorem dX11_flight_114 : decode cX11_flight 114 = .ok (.aload_n 0, 1) := by decide +kernel
theorem dX11_flight_115 : decode cX11_flight 115 = .ok (.getfield 54, 3) := by decide +kernel
theorem dX11_flight_118 : decode cX11_flight 118 = .ok (.iload_n 1, 1) := by decide +kernel
theorem dX11_flight_119 : decode cX11_flight 119 = .ok (.iaload, 1) := by decide +kernel
theorem dX11_flight_120 : decode cX11_flight 120 = .ok (.invokevirtual 96, 3) := by decide +kernel
theorem dX11_flight_123 : decode cX11_flight 123 = .ok (.ireturn, 1) := by decide +kernel
theorem dX11_isMetBy_0 : decode cX11_isMetBy 0 = .ok (.aload_n 0, 1) := by decide +kernel
theorem dX11_isMetBy_1 : decode cX11_isMetBy 1 = .ok (.iload_n 2, 1) := by decide +kernel
theorem dX11_isMetBy_2 : decode cX11_isMetBy 2 = .ok (.iload_n 3, 1) := by decide +kernel
theorem dX11_isMetBy_3 : decode cX11_isMetBy 3 = .ok (.invokevirtual 129, 3) := by decide +kernel
theorem dX11_isMetBy_6 : decode cX11_isMetBy 6 = .ok (.istore 5, 2) := by decide +kernel
theorem dX11_isMetBy_8 : decode cX11_isMetBy 8 = .ok (.aload_n 0, 1) := by decide +kernel
theorem dX11_isMetBy_9 : decode cX11_isMetBy 9 = .ok (.iload_n 2, 1) := by decide +kernel
theorem dX11_isMetBy_10 : decode cX11_isMetBy 10 = .ok (.iload_n 3, 1) := by decide +kernel
theorem dX11_isMetBy_11 : decode cX11_isMetBy 11 = .ok (.invokevirtual 125, 3) := by decide +kernel
theorem dX11_isMetBy_14 : decode cX11_isMetBy 14 = .ok (.istore 6, 2) := by decide +kernel
theorem dX11_isMetBy_16 : decode cX11_isMetBy 16 = .ok (.iload 5, 2) := by decide +kernel
theorem dX11_isMetBy_18 : decode cX11_isMetBy 18 = .ok (.iconst 2, 1) := by decide +kernel
theorem dX11_isMetBy_19 : decode cX11_isMetBy 19 = .ok (.if_icmp .ne 16, 3) := by decide +kernel
theorem dX11_isMetBy_22 : decode cX11_isMetBy 22 = .ok (.aload_n 0, 1) := by decide +kernel
theorem dX11_isMetBy_23 : decode cX11_isMetBy 23 = .ok (.iload_n 1, 1) := by decide +kernel
theorem dX11_isMetBy_24 : decode cX11_isMetBy 24 = .ok (.iload 4, 2) := by decide +kernel
theorem dX11_isMetBy_26 : decode cX11_isMetBy 26 = .ok (.iconst 1, 1) := by decide +kernel
theorem dX11_isMetBy_27 : decode cX11_isMetBy 27 = .ok (.iadd, 1) := by decide +kernel
theorem dX11_isMetBy_28 : decode cX11_isMetBy 28 = .ok (.invokevirtual 210, 3) := by decide +kernel
theorem dX11_isMetBy_31 : decode cX11_isMetBy 31 = .ok (.iload_n 2, 1) := by decide +kernel
theorem dX11_isMetBy_32 : decode cX11_isMetBy 32 = .ok (.if_icmp .eq 18, 3) := by decide +kernel
theorem dX11_isMetBy_35 : decode cX11_isMetBy 35 = .ok (.aload_n 0, 1) := by decide +kernel
theorem dX11_isMetBy_36 : decode cX11_isMetBy 36 = .ok (.iload_n 1, 1) := by decide +kernel
theorem dX11_isMetBy_37 : decode cX11_isMetBy 37 = .ok (.iload 4, 2) := by decide +kernel
theorem dX11_isMetBy_39 : decode cX11_isMetBy 39 = .ok (.iload 5, 2) := by decide +kernel
theorem dX11_isMetBy_41 : decode cX11_isMetBy 41 = .ok (.iadd, 1) := by decide +kernel
theorem dX11_isMetBy_42 : decode cX11_isMetBy 42 = .ok (.invokevirtual 210, 3) := by decide +kernel
theorem dX11_isMetBy_45 : decode cX11_isMetBy 45 = .ok (.iload 6, 2) := by decide +kernel
theorem dX11_isMetBy_47 : decode cX11_isMetBy 47 = .ok (.if_icmp .ne 7, 3) := by decide +kernel
theorem dX11_isMetBy_50 : decode cX11_isMetBy 50 = .ok (.iconst 1, 1) := by decide +kernel
theorem dX11_isMetBy_51 : decode cX11_isMetBy 51 = .ok (.goto 4, 3) := by decide +kernel
theorem dX11_isMetBy_54 : decode cX11_isMetBy 54 = .ok (.iconst 0, 1) := by decide +kernel
theorem dX11_isMetBy_55 : decode cX11_isMetBy 55 = .ok (.istore 7, 2) := by decide +kernel
theorem dX11_isMetBy_57 : decode cX11_isMetBy 57 = .ok (.iload 7, 2) := by decide +kernel
theorem dX11_isMetBy_59 : decode cX11_isMetBy 59 = .ok (.ifCond .ne 34, 3) := by decide +kernel
theorem dX11_isMetBy_62 : decode cX11_isMetBy 62 = .ok (.aload_n 0, 1) := by decide +kernel
theorem dX11_isMetBy_63 : decode cX11_isMetBy 63 = .ok (.iload_n 1, 1) := by decide +kernel
theorem dX11_isMetBy_64 : decode cX11_isMetBy 64 = .ok (.iload 4, 2) := by decide +kernel
theorem dX11_isMetBy_66 : decode cX11_isMetBy 66 = .ok (.iload 5, 2) := by decide +kernel
theorem dX11_isMetBy_68 : decode cX11_isMetBy 68 = .ok (.iadd, 1) := by decide +kernel
theorem dX11_isMetBy_69 : decode cX11_isMetBy 69 = .ok (.iconst 1, 1) := by decide +kernel
theorem dX11_isMetBy_70 : decode cX11_isMetBy 70 = .ok (.isub, 1) := by decide +kernel
theorem dX11_isMetBy_71 : decode cX11_isMetBy 71 = .ok (.invokevirtual 210, 3) := by decide +kernel
theorem dX11_isMetBy_74 : decode cX11_isMetBy 74 = .ok (.iload 6, 2) := by decide +kernel
theorem dX11_isMetBy_76 : decode cX11_isMetBy 76 = .ok (.if_icmp .ne 21, 3) := by decide +kernel
theorem dX11_isMetBy_79 : decode cX11_isMetBy 79 = .ok (.aload_n 0, 1) := by decide +kernel
theorem dX11_isMetBy_80 : decode cX11_isMetBy 80 = .ok (.iload_n 1, 1) := by decide +kernel
theorem dX11_isMetBy_81 : decode cX11_isMetBy 81 = .ok (.iload 4, 2) := by decide +kernel
theorem dX11_isMetBy_83 : decode cX11_isMetBy 83 = .ok (.iload 5, 2) := by decide +kernel
theorem dX11_isMetBy_85 : decode cX11_isMetBy 85 = .ok (.iadd, 1) := by decide +kernel
theorem dX11_isMetBy_86 : decode cX11_isMetBy 86 = .ok (.invokevirtual 210, 3) := by decide +kernel
theorem dX11_isMetBy_89 : decode cX11_isMetBy 89 = .ok (.iload_n 2, 1) := by decide +kernel
theorem dX11_isMetBy_90 : decode cX11_isMetBy 90 = .ok (.if_icmp .ne 7, 3) := by decide +kernel
theorem dX11_isMetBy_93 : decode cX11_isMetBy 93 = .ok (.iconst 1, 1) := by decide +kernel
theorem dX11_isMetBy_94 : decode cX11_isMetBy 94 = .ok (.goto 4, 3) := by decide +kernel
theorem dX11_isMetBy_97 : decode cX11_isMetBy 97 = .ok (.iconst 0, 1) := by decide +kernel
theorem dX11_isMetBy_98 : decode cX11_isMetBy 98 = .ok (.ireturn, 1) := by decide +kernel
theorem dX11_explain_0 : decode cX11_explain 0 = .ok (.aload_n 0, 1) := by decide +kernel
theorem dX11_explain_1 : decode cX11_explain 1 = .ok (.iload_n 1, 1) := by decide +kernel
theorem dX11_explain_2 : decode cX11_explain 2 = .ok (.invokevirtual 102, 3) := by decide +kernel
theorem dX11_explain_5 : decode cX11_explain 5 = .ok (.ifCond .ne 5, 3) := by decide +kernel
theorem dX11_explain_8 : decode cX11_explain 8 = .ok (.iconst (-1), 1) := by decide +kernel
theorem dX11_explain_9 : decode cX11_explain 9 = .ok (.ireturn, 1) := by decide +kernel
theorem dX11_explain_10 : decode cX11_explain 10 = .ok (.iload_n 2, 1) := by decide +kernel
theorem dX11_explain_11 : decode cX11_explain 11 = .ok (.iconst 0, 1) := by decide +kernel
theorem dX11_explain_12 : decode cX11_explain 12 = .ok (.bipush 59, 2) := by decide +kernel
theorem dX11_explain_14 : decode cX11_explain 14 = .ok (.invokestatic 73, 3) := by decide +kernel
theorem dX11_explain_17 : decode cX11_explain 17 = .ok (.ifCond .ne 6, 3) := by decide +kernel
theorem dX11_explain_20 : decode cX11_explain 20 = .ok (.bipush (-2), 2) := by decide +kernel
theorem dX11_explain_22 : decode cX11_explain 22 = .ok (.ireturn, 1) := by decide +kernel
theorem dX11_explain_23 : decode cX11_explain 23 = .ok (.aload_n 0, 1) := by decide +kernel
theorem dX11_explain_24 : decode cX11_explain 24 = .ok (.getfield 69, 3) := by decide +kernel
theorem dX11_explain_27 : decode cX11_explain 27 = .ok (.ifCond .ne 6, 3) := by decide +kernel
theorem dX11_explain_30 : decode cX11_explain 30 = .ok (.bipush (-7), 2) := by decide +kernel
theorem dX11_explain_32 : decode cX11_explain 32 = .ok (.ireturn, 1) := by decide +kernel
theorem dX11_explain_33 : decode cX11_explain 33 = .ok (.aload_n 0, 1) := by decide +kernel
theorem dX11_explain_34 : decode cX11_explain 34 = .ok (.getfield 192, 3) := by decide +kernel
theorem dX11_explain_37 : decode cX11_explain 37 = .ok (.iload_n 2, 1) := by decide +kernel
theorem dX11_explain_38 : decode cX11_explain 38 = .ok (.iadd, 1) := by decide +kernel
theorem dX11_explain_39 : decode cX11_explain 39 = .ok (.istore_n 3, 1) := by decide +kernel
theorem dX11_explain_40 : decode cX11_explain 40 = .ok (.iload_n 3, 1) := by decide +kernel
theorem dX11_explain_41 : decode cX11_explain 41 = .ok (.aload_n 0, 1) := by decide +kernel
theorem dX11_explain_42 : decode cX11_explain 42 = .ok (.getfield 45, 3) := by decide +kernel
theorem dX11_explain_45 : decode cX11_explain 45 = .ok (.iload_n 1, 1) := by decide +kernel
theorem dX11_explain_46 : decode cX11_explain 46 = .ok (.iaload, 1) := by decide +kernel
theorem dX11_explain_47 : decode cX11_explain 47 = .ok (.if_icmp .ge 12, 3) := by decide +kernel
theorem dX11_explain_50 : decode cX11_explain 50 = .ok (.aload_n 0, 1) := by decide +kernel
theorem dX11_explain_51 : decode cX11_explain 51 = .ok (.iload_n 1, 1) := by decide +kernel
theorem dX11_explain_52 : decode cX11_explain 52 = .ok (.iload_n 3, 1) := by decide +kernel
theorem dX11_explain_53 : decode cX11_explain 53 = .ok (.invokevirtual 213, 3) := by decide +kernel
theorem dX11_explain_56 : decode cX11_explain 56 = .ok (.ifCond .eq 5, 3) := by decide +kernel
theorem dX11_explain_59 : decode cX11_explain 59 = .ok (.iconst (-1), 1) := by decide +kernel
theorem dX11_explain_60 : decode cX11_explain 60 = .ok (.ireturn, 1) := by decide +kernel
theorem dX11_explain_61 : decode cX11_explain 61 = .ok (.aload_n 0, 1) := by decide +kernel
theorem dX11_explain_62 : decode cX11_explain 62 = .ok (.iload_n 1, 1) := by decide +kernel
theorem dX11_explain_63 : decode cX11_explain 63 = .ok (.iload_n 3, 1) := by decide +kernel
theorem dX11_explain_64 : decode cX11_explain 64 = .ok (.invokevirtual 210, 3) := by decide +kernel
theorem dX11_explain_67 : decode cX11_explain 67 = .ok (.istore 4, 2) := by decide +kernel
theorem dX11_explain_69 : decode cX11_explain 69 = .ok (.aload_n 0, 1) := by decide +kernel
theorem dX11_explain_70 : decode cX11_explain 70 = .ok (.iload 4, 2) := by decide +kernel
theorem dX11_explain_72 : decode cX11_explain 72 = .ok (.aload_n 0, 1) := by decide +kernel
theorem dX11_explain_73 : decode cX11_explain 73 = .ok (.getfield 54, 3) := by decide +kernel
theorem dX11_explain_76 : decode cX11_explain 76 = .ok (.iload_n 1, 1) := by decide +kernel
theorem dX11_explain_77 : decode cX11_explain 77 = .ok (.iaload, 1) := by decide +kernel
theorem dX11_explain_78 : decode cX11_explain 78 = .ok (.invokevirtual 219, 3) := by decide +kernel
theorem dX11_explain_81 : decode cX11_explain 81 = .ok (.istore 5, 2) := by decide +kernel
theorem dX11_explain_83 : decode cX11_explain 83 = .ok (.iconst 0, 1) := by decide +kernel
theorem dX11_explain_84 : decode cX11_explain 84 = .ok (.istore 6, 2) := by decide +kernel
theorem dX11_explain_86 : decode cX11_explain 86 = .ok (.iload 6, 2) := by decide +kernel
theorem dX11_explain_88 : decode cX11_explain 88 = .ok (.aload_n 0, 1) := by decide +kernel
theorem dX11_explain_89 : decode cX11_explain 89 = .ok (.getfield 9, 3) := by decide +kernel
theorem dX11_explain_92 : decode cX11_explain 92 = .ok (.bipush 111, 2) := by decide +kernel
theorem dX11_explain_94 : decode cX11_explain 94 = .ok (.iaload, 1) := by decide +kernel
theorem dX11_explain_95 : decode cX11_explain 95 = .ok (.if_icmp .ge 47, 3) := by decide +kernel
theorem dX11_explain_98 : decode cX11_explain 98 = .ok (.iload 5, 2) := by decide +kernel
theorem dX11_explain_100 : decode cX11_explain 100 = .ok (.ifCond .eq 42, 3) := by decide +kernel
theorem dX11_explain_103 : decode cX11_explain 103 = .ok (.aload_n 0, 1) := by decide +kernel
theorem dX11_explain_104 : decode cX11_explain 104 = .ok (.getfield 48, 3) := by decide +kernel
theorem dX11_explain_107 : decode cX11_explain 107 = .ok (.iload 6, 2) := by decide +kernel
theorem dX11_explain_109 : decode cX11_explain 109 = .ok (.iaload, 1) := by decide +kernel
theorem dX11_explain_110 : decode cX11_explain 110 = .ok (.aload_n 0, 1) := by decide +kernel
theorem dX11_explain_111 : decode cX11_explain 111 = .ok (.getfield 48, 3) := by decide +kernel
theorem dX11_explain_114 : decode cX11_explain 114 = .ok (.iload_n 1, 1) := by decide +kernel
theorem dX11_explain_115 : decode cX11_explain 115 = .ok (.iaload, 1) := by decide +kernel
theorem dX11_explain_116 : decode cX11_explain 116 = .ok (.if_icmp .ge 20, 3) := by decide +kernel
theorem dX11_explain_119 : decode cX11_explain 119 = .ok (.aload_n 0, 1) := by decide +kernel
theorem dX11_explain_120 : decode cX11_explain 120 = .ok (.iload 6, 2) := by decide +kernel
theorem dX11_explain_122 : decode cX11_explain 122 = .ok (.iload 4, 2) := by decide +kernel
theorem dX11_explain_124 : decode cX11_explain 124 = .ok (.iload 5, 2) := by decide +kernel
theorem dX11_explain_126 : decode cX11_explain 126 = .ok (.iload_n 3, 1) := by decide +kernel
theorem dX11_explain_127 : decode cX11_explain 127 = .ok (.invokevirtual 222, 3) := by decide +kernel
theorem dX11_explain_130 : decode cX11_explain 130 = .ok (.ifCond .eq 6, 3) := by decide +kernel
theorem dX11_explain_133 : decode cX11_explain 133 = .ok (.iload 6, 2) := by decide +kernel
theorem dX11_explain_135 : decode cX11_explain 135 = .ok (.ireturn, 1) := by decide +kernel
theorem dX11_explain_136 : decode cX11_explain 136 = .ok (.iinc 6 1, 3) := by decide +kernel
theorem dX11_explain_139 : decode cX11_explain 139 = .ok (.goto (-53), 3) := by decide +kernel
theorem dX11_explain_142 : decode cX11_explain 142 = .ok (.iconst (-1), 1) := by decide +kernel
theorem dX11_explain_143 : decode cX11_explain 143 = .ok (.ireturn, 1) := by decide +kernel
theorem dX11_goesAlone_0 : decode cX11_goesAlone 0 = .ok (.aload_n 0, 1) := by decide +kernel
theorem dX11_goesAlone_1 : decode cX11_goesAlone 1 = .ok (.iload_n 1, 1) := by decide +kernel
theorem dX11_goesAlone_2 : decode cX11_goesAlone 2 = .ok (.aload_n 0, 1) := by decide +kernel
theorem dX11_goesAlone_3 : decode cX11_goesAlone 3 = .ok (.getfield 192, 3) := by decide +kernel
theorem dX11_goesAlone_6 : decode cX11_goesAlone 6 = .ok (.invokevirtual 210, 3) := by decide +kernel
theorem dX11_goesAlone_9 : decode cX11_goesAlone 9 = .ok (.istore_n 2, 1) := by decide +kernel
theorem dX11_goesAlone_10 : decode cX11_goesAlone 10 = .ok (.iconst 0, 1) := by decide +kernel
theorem dX11_goesAlone_11 : decode cX11_goesAlone 11 = .ok (.istore_n 3, 1) := by decide +kernel
theorem dX11_goesAlone_12 : decode cX11_goesAlone 12 = .ok (.aload_n 0, 1) := by decide +kernel
theorem dX11_goesAlone_13 : decode cX11_goesAlone 13 = .ok (.getfield 66, 3) := by decide +kernel
theorem dX11_goesAlone_16 : decode cX11_goesAlone 16 = .ok (.sipush 300, 3) := by decide +kernel
theorem dX11_goesAlone_19 : decode cX11_goesAlone 19 = .ok (.iload_n 1, 1) := by decide +kernel
theorem dX11_goesAlone_20 : decode cX11_goesAlone 20 = .ok (.imul, 1) := by decide +kernel
theorem dX11_goesAlone_21 : decode cX11_goesAlone 21 = .ok (.iload_n 2, 1) := by decide +kernel
theorem dX11_goesAlone_22 : decode cX11_goesAlone 22 = .ok (.iastore, 1) := by decide +kernel
theorem dX11_goesAlone_23 : decode cX11_goesAlone 23 = .ok (.iload_n 2, 1) := by decide +kernel
theorem dX11_goesAlone_24 : decode cX11_goesAlone 24 = .ok (.aload_n 0, 1) := by decide +kernel
theorem dX11_goesAlone_25 : decode cX11_goesAlone 25 = .ok (.getfield 54, 3) := by decide +kernel
theorem dX11_goesAlone_28 : decode cX11_goesAlone 28 = .ok (.iload_n 1, 1) := by decide +kernel
theorem dX11_goesAlone_29 : decode cX11_goesAlone 29 = .ok (.iaload, 1) := by decide +kernel
theorem dX11_goesAlone_30 : decode cX11_goesAlone 30 = .ok (.if_icmp .eq 69, 3) := by decide +kernel
theorem dX11_goesAlone_33 : decode cX11_goesAlone 33 = .ok (.aload_n 0, 1) := by decide +kernel
theorem dX11_goesAlone_34 : decode cX11_goesAlone 34 = .ok (.iload_n 2, 1) := by decide +kernel
theorem dX11_goesAlone_35 : decode cX11_goesAlone 35 = .ok (.aload_n 0, 1) := by decide +kernel
theorem dX11_goesAlone_36 : decode cX11_goesAlone 36 = .ok (.getfield 54, 3) := by decide +kernel
theorem dX11_goesAlone_39 : decode cX11_goesAlone 39 = .ok (.iload_n 1, 1) := by decide +kernel
theorem dX11_goesAlone_40 : decode cX11_goesAlone 40 = .ok (.iaload, 1) := by decide +kernel
theorem dX11_goesAlone_41 : decode cX11_goesAlone 41 = .ok (.invokevirtual 219, 3) := by decide +kernel
theorem dX11_goesAlone_44 : decode cX11_goesAlone 44 = .ok (.istore 4, 2) := by decide +kernel
theorem dX11_goesAlone_46 : decode cX11_goesAlone 46 = .ok (.aload_n 0, 1) := by decide +kernel
theorem dX11_goesAlone_47 : decode cX11_goesAlone 47 = .ok (.iload_n 2, 1) := by decide +kernel
theorem dX11_goesAlone_48 : decode cX11_goesAlone 48 = .ok (.iload 4, 2) := by decide +kernel
theorem dX11_goesAlone_50 : decode cX11_goesAlone 50 = .ok (.invokevirtual 129, 3) := by decide +kernel
theorem dX11_goesAlone_53 : decode cX11_goesAlone 53 = .ok (.istore 5, 2) := by decide +kernel
theorem dX11_goesAlone_55 : decode cX11_goesAlone 55 = .ok (.aload_n 0, 1) := by decide +kernel
theorem dX11_goesAlone_56 : decode cX11_goesAlone 56 = .ok (.getfield 66, 3) := by decide +kernel
theorem dX11_goesAlone_59 : decode cX11_goesAlone 59 = .ok (.sipush 300, 3) := by decide +kernel
theorem dX11_goesAlone_62 : decode cX11_goesAlone 62 = .ok (.iload_n 1, 1) := by decide +kernel
theorem dX11_goesAlone_63 : decode cX11_goesAlone 63 = .ok (.imul, 1) := by decide +kernel
theorem dX11_goesAlone_64 : decode cX11_goesAlone 64 = .ok (.iload_n 3, 1) := by decide +kernel
theorem dX11_goesAlone_65 : decode cX11_goesAlone 65 = .ok (.iadd, 1) := by decide +kernel
theorem dX11_goesAlone_66 : decode cX11_goesAlone 66 = .ok (.iconst 1, 1) := by decide +kernel
theorem dX11_goesAlone_67 : decode cX11_goesAlone 67 = .ok (.iadd, 1) := by decide +kernel
theorem dX11_goesAlone_68 : decode cX11_goesAlone 68 = .ok (.iload_n 2, 1) := by decide +kernel
theorem dX11_goesAlone_69 : decode cX11_goesAlone 69 = .ok (.iastore, 1) := by decide +kernel
theorem dX11_goesAlone_70 : decode cX11_goesAlone 70 = .ok (.aload_n 0, 1) := by decide +kernel
theorem dX11_goesAlone_71 : decode cX11_goesAlone 71 = .ok (.iload_n 2, 1) := by decide +kernel
theorem dX11_goesAlone_72 : decode cX11_goesAlone 72 = .ok (.iload 4, 2) := by decide +kernel
theorem dX11_goesAlone_74 : decode cX11_goesAlone 74 = .ok (.invokevirtual 125, 3) := by decide +kernel
theorem dX11_goesAlone_77 : decode cX11_goesAlone 77 = .ok (.istore_n 2, 1) := by decide +kernel
theorem dX11_goesAlone_78 : decode cX11_goesAlone 78 = .ok (.iload_n 3, 1) := by decide +kernel
theorem dX11_goesAlone_79 : decode cX11_goesAlone 79 = .ok (.iload 5, 2) := by decide +kernel
theorem dX11_goesAlone_81 : decode cX11_goesAlone 81 = .ok (.iadd, 1) := by decide +kernel
theorem dX11_goesAlone_82 : decode cX11_goesAlone 82 = .ok (.istore_n 3, 1) := by decide +kernel
theorem dX11_goesAlone_83 : decode cX11_goesAlone 83 = .ok (.aload_n 0, 1) := by decide +kernel
theorem dX11_goesAlone_84 : decode cX11_goesAlone 84 = .ok (.getfield 66, 3) := by decide +kernel
theorem dX11_goesAlone_87 : decode cX11_goesAlone 87 = .ok (.sipush 300, 3) := by decide +kernel
theorem dX11_goesAlone_90 : decode cX11_goesAlone 90 = .ok (.iload_n 1, 1) := by decide +kernel
theorem dX11_goesAlone_91 : decode cX11_goesAlone 91 = .ok (.imul, 1) := by decide +kernel
theorem dX11_goesAlone_92 : decode cX11_goesAlone 92 = .ok (.iload_n 3, 1) := by decide +kernel
theorem dX11_goesAlone_93 : decode cX11_goesAlone 93 = .ok (.iadd, 1) := by decide +kernel
theorem dX11_goesAlone_94 : decode cX11_goesAlone 94 = .ok (.iload_n 2, 1) := by decide +kernel
theorem dX11_goesAlone_95 : decode cX11_goesAlone 95 = .ok (.iastore, 1) := by decide +kernel
theorem dX11_goesAlone_96 : decode cX11_goesAlone 96 = .ok (.goto (-73), 3) := by decide +kernel
theorem dX11_goesAlone_99 : decode cX11_goesAlone 99 = .ok (.iload_n 3, 1) := by decide +kernel
theorem dX11_goesAlone_100 : decode cX11_goesAlone 100 = .ok (.iconst 1, 1) := by decide +kernel
theorem dX11_goesAlone_101 : decode cX11_goesAlone 101 = .ok (.iadd, 1) := by decide +kernel
theorem dX11_goesAlone_102 : decode cX11_goesAlone 102 = .ok (.istore 4, 2) := by decide +kernel
theorem dX11_goesAlone_104 : decode cX11_goesAlone 104 = .ok (.iload 4, 2) := by decide +kernel
theorem dX11_goesAlone_106 : decode cX11_goesAlone 106 = .ok (.sipush 300, 3) := by decide +kernel
theorem dX11_goesAlone_109 : decode cX11_goesAlone 109 = .ok (.if_icmp .ge 23, 3) := by decide +kernel
theorem dX11_goesAlone_112 : decode cX11_goesAlone 112 = .ok (.aload_n 0, 1) := by decide +kernel
theorem dX11_goesAlone_113 : decode cX11_goesAlone 113 = .ok (.getfield 66, 3) := by decide +kernel
theorem dX11_goesAlone_116 : decode cX11_goesAlone 116 = .ok (.sipush 300, 3) := by decide +kernel
theorem dX11_goesAlone_119 : decode cX11_goesAlone 119 = .ok (.iload_n 1, 1) := by decide +kernel
theorem dX11_goesAlone_120 : decode cX11_goesAlone 120 = .ok (.imul, 1) := by decide +kernel
theorem dX11_goesAlone_121 : decode cX11_goesAlone 121 = .ok (.iload 4, 2) := by decide +kernel
theorem dX11_goesAlone_123 : decode cX11_goesAlone 123 = .ok (.iadd, 1) := by decide +kernel
theorem dX11_goesAlone_124 : decode cX11_goesAlone 124 = .ok (.iload_n 2, 1) := by decide +kernel
theorem dX11_goesAlone_125 : decode cX11_goesAlone 125 = .ok (.iastore, 1) := by decide +kernel
theorem dX11_goesAlone_126 : decode cX11_goesAlone 126 = .ok (.iinc 4 1, 3) := by decide +kernel
theorem dX11_goesAlone_129 : decode cX11_goesAlone 129 = .ok (.goto (-25), 3) := by decide +kernel
theorem dX11_goesAlone_132 : decode cX11_goesAlone 132 = .ok (.return_, 1) := by decide +kernel
theorem dX11_areInConflict_0 : decode cX11_areInConflict 0 = .ok (.iconst 0, 1) := by decide +kernel
theorem dX11_areInConflict_1 : decode cX11_areInConflict 1 = .ok (.istore_n 3, 1) := by decide +kernel
theorem dX11_areInConflict_2 : decode cX11_areInConflict 2 = .ok (.iload_n 3, 1) := by decide +kernel
theorem dX11_areInConflict_3 : decode cX11_areInConflict 3 = .ok (.sipush 300, 3) := by decide +kernel
theorem dX11_areInConflict_6 : decode cX11_areInConflict 6 = .ok (.if_icmp .ge 102, 3) := by decide +kernel
theorem dX11_areInConflict_9 : decode cX11_areInConflict 9 = .ok (.aload_n 0, 1) := by decide +kernel
theorem dX11_areInConflict_10 : decode cX11_areInConflict 10 = .ok (.getfield 66, 3) := by decide +kernel
theorem dX11_areInConflict_13 : decode cX11_areInConflict 13 = .ok (.sipush 300, 3) := by decide +kernel
theorem dX11_areInConflict_16 : decode cX11_areInConflict 16 = .ok (.iload_n 1, 1) := by decide +kernel
theorem dX11_areInConflict_17 : decode cX11_areInConflict 17 = .ok (.imul, 1) := by decide +kernel
theorem dX11_areInConflict_18 : decode cX11_areInConflict 18 = .ok (.iload_n 3, 1) := by decide +kernel
theorem dX11_areInConflict_19 : decode cX11_areInConflict 19 = .ok (.iadd, 1) := by decide +kernel
theorem dX11_areInConflict_20 : decode cX11_areInConflict 20 = .ok (.iaload, 1) := by decide +kernel
theorem dX11_areInConflict_21 : decode cX11_areInConflict 21 = .ok (.aload_n 0, 1) := by decide +kernel
theorem dX11_areInConflict_22 : decode cX11_areInConflict 22 = .ok (.getfield 66, 3) := by decide +kernel
theorem dX11_areInConflict_25 : decode cX11_areInConflict 25 = .ok (.sipush 300, 3) := by decide +kernel
theorem dX11_areInConflict_28 : decode cX11_areInConflict 28 = .ok (.iload_n 2, 1) := by decide +kernel
theorem dX11_areInConflict_29 : decode cX11_areInConflict 29 = .ok (.imul, 1) := by decide +kernel
theorem dX11_areInConflict_30 : decode cX11_areInConflict 30 = .ok (.iload_n 3, 1) := by decide +kernel
theorem dX11_areInConflict_31 : decode cX11_areInConflict 31 = .ok (.iadd, 1) := by decide +kernel
theorem dX11_areInConflict_32 : decode cX11_areInConflict 32 = .ok (.iaload, 1) := by decide +kernel
theorem dX11_areInConflict_33 : decode cX11_areInConflict 33 = .ok (.if_icmp .ne 5, 3) := by decide +kernel
theorem dX11_areInConflict_36 : decode cX11_areInConflict 36 = .ok (.iconst 1, 1) := by decide +kernel
theorem dX11_areInConflict_37 : decode cX11_areInConflict 37 = .ok (.ireturn, 1) := by decide +kernel
theorem dX11_areInConflict_38 : decode cX11_areInConflict 38 = .ok (.iload_n 3, 1) := by decide +kernel
theorem dX11_areInConflict_39 : decode cX11_areInConflict 39 = .ok (.ifCond .le 63, 3) := by decide +kernel
theorem dX11_areInConflict_42 : decode cX11_areInConflict 42 = .ok (.aload_n 0, 1) := by decide +kernel
theorem dX11_areInConflict_43 : decode cX11_areInConflict 43 = .ok (.getfield 66, 3) := by decide +kernel
theorem dX11_areInConflict_46 : decode cX11_areInConflict 46 = .ok (.sipush 300, 3) := by decide +kernel
theorem dX11_areInConflict_49 : decode cX11_areInConflict 49 = .ok (.iload_n 1, 1) := by decide +kernel
theorem dX11_areInConflict_50 : decode cX11_areInConflict 50 = .ok (.imul, 1) := by decide +kernel
theorem dX11_areInConflict_51 : decode cX11_areInConflict 51 = .ok (.iload_n 3, 1) := by decide +kernel
theorem dX11_areInConflict_52 : decode cX11_areInConflict 52 = .ok (.iadd, 1) := by decide +kernel
theorem dX11_areInConflict_53 : decode cX11_areInConflict 53 = .ok (.iaload, 1) := by decide +kernel
theorem dX11_areInConflict_54 : decode cX11_areInConflict 54 = .ok (.aload_n 0, 1) := by decide +kernel
theorem dX11_areInConflict_55 : decode cX11_areInConflict 55 = .ok (.getfield 66, 3) := by decide +kernel
theorem dX11_areInConflict_58 : decode cX11_areInConflict 58 = .ok (.sipush 300, 3) := by decide +kernel
theorem dX11_areInConflict_61 : decode cX11_areInConflict 61 = .ok (.iload_n 2, 1) := by decide +kernel
theorem dX11_areInConflict_62 : decode cX11_areInConflict 62 = .ok (.imul, 1) := by decide +kernel
theorem dX11_areInConflict_63 : decode cX11_areInConflict 63 = .ok (.iload_n 3, 1) := by decide +kernel
theorem dX11_areInConflict_64 : decode cX11_areInConflict 64 = .ok (.iadd, 1) := by decide +kernel
theorem dX11_areInConflict_65 : decode cX11_areInConflict 65 = .ok (.iconst 1, 1) := by decide +kernel
theorem dX11_areInConflict_66 : decode cX11_areInConflict 66 = .ok (.isub, 1) := by decide +kernel
theorem dX11_areInConflict_67 : decode cX11_areInConflict 67 = .ok (.iaload, 1) := by decide +kernel
theorem dX11_areInConflict_68 : decode cX11_areInConflict 68 = .ok (.if_icmp .ne 34, 3) := by decide +kernel
theorem dX11_areInConflict_71 : decode cX11_areInConflict 71 = .ok (.aload_n 0, 1) := by decide +kernel
theorem dX11_areInConflict_72 : decode cX11_areInConflict 72 = .ok (.getfield 66, 3) := by decide +kernel
theorem dX11_areInConflict_75 : decode cX11_areInConflict 75 = .ok (.sipush 300, 3) := by decide +kernel
theorem dX11_areInConflict_78 : decode cX11_areInConflict 78 = .ok (.iload_n 1, 1) := by decide +kernel
theorem dX11_areInConflict_79 : decode cX11_areInConflict 79 = .ok (.imul, 1) := by decide +kernel
theorem dX11_areInConflict_80 : decode cX11_areInConflict 80 = .ok (.iload_n 3, 1) := by decide +kernel
theorem dX11_areInConflict_81 : decode cX11_areInConflict 81 = .ok (.iadd, 1) := by decide +kernel
theorem dX11_areInConflict_82 : decode cX11_areInConflict 82 = .ok (.iconst 1, 1) := by decide +kernel
theorem dX11_areInConflict_83 : decode cX11_areInConflict 83 = .ok (.isub, 1) := by decide +kernel
theorem dX11_areInConflict_84 : decode cX11_areInConflict 84 = .ok (.iaload, 1) := by decide +kernel
theorem dX11_areInConflict_85 : decode cX11_areInConflict 85 = .ok (.aload_n 0, 1) := by decide +kernel
theorem dX11_areInConflict_86 : decode cX11_areInConflict 86 = .ok (.getfield 66, 3) := by decide +kernel
theorem dX11_areInConflict_89 : decode cX11_areInConflict 89 = .ok (.sipush 300, 3) := by decide +kernel
theorem dX11_areInConflict_92 : decode cX11_areInConflict 92 = .ok (.iload_n 2, 1) := by decide +kernel
theorem dX11_areInConflict_93 : decode cX11_areInConflict 93 = .ok (.imul, 1) := by decide +kernel
theorem dX11_areInConflict_94 : decode cX11_areInConflict 94 = .ok (.iload_n 3, 1) := by decide +kernel
theorem dX11_areInConflict_95 : decode cX11_areInConflict 95 = .ok (.iadd, 1) := by decide +kernel
theorem dX11_areInConflict_96 : decode cX11_areInConflict 96 = .ok (.iaload, 1) := by decide +kernel
theorem dX11_areInConflict_97 : decode cX11_areInConflict 97 = .ok (.if_icmp .ne 5, 3) := by decide +kernel
theorem dX11_areInConflict_100 : decode cX11_areInConflict 100 = .ok (.iconst 1, 1) := by decide +kernel
theorem dX11_areInConflict_101 : decode cX11_areInConflict 101 = .ok (.ireturn, 1) := by decide +kernel
theorem dX11_areInConflict_102 : decode cX11_areInConflict 102 = .ok (.iinc 3 1, 3) := by decide +kernel
theorem dX11_areInConflict_105 : decode cX11_areInConflict 105 = .ok (.goto (-103), 3) := by decide +kernel
theorem dX11_areInConflict_108 : decode cX11_areInConflict 108 = .ok (.iconst 0, 1) := by decide +kernel
theorem dX11_areInConflict_109 : decode cX11_areInConflict 109 = .ok (.ireturn, 1) := by decide +kernel
theorem dX11_conflictsWithout_0 : decode cX11_conflictsWithout 0 = .ok (.aload_n 0, 1) := by decide +kernel
theorem dX11_conflictsWithout_1 : decode cX11_conflictsWithout 1 = .ok (.getfield 69, 3) := by decide +kernel
theorem dX11_conflictsWithout_4 : decode cX11_conflictsWithout 4 = .ok (.ifCond .ne 6, 3) := by decide +kernel
theorem dX11_conflictsWithout_7 : decode cX11_conflictsWithout 7 = .ok (.bipush (-7), 2) := by decide +kernel
theorem dX11_conflictsWithout_9 : decode cX11_conflictsWithout 9 = .ok (.ireturn, 1) := by decide +kernel
theorem dX11_conflictsWithout_10 : decode cX11_conflictsWithout 10 = .ok (.iconst 0, 1) := by decide +kernel
theorem dX11_conflictsWithout_11 : decode cX11_conflictsWithout 11 = .ok (.istore_n 1, 1) := by decide +kernel
theorem dX11_conflictsWithout_12 : decode cX11_conflictsWithout 12 = .ok (.iconst 0, 1) := by decide +kernel
theorem dX11_conflictsWithout_13 : decode cX11_conflictsWithout 13 = .ok (.istore_n 2, 1) := by decide +kernel
theorem dX11_conflictsWithout_14 : decode cX11_conflictsWithout 14 = .ok (.iload_n 2, 1) := by decide +kernel
theorem dX11_conflictsWithout_15 : decode cX11_conflictsWithout 15 = .ok (.aload_n 0, 1) := by decide +kernel
theorem dX11_conflictsWithout_16 : decode cX11_conflictsWithout 16 = .ok (.getfield 9, 3) := by decide +kernel
theorem dX11_conflictsWithout_19 : decode cX11_conflictsWithout 19 = .ok (.bipush 111, 2) := by decide +kernel
theorem dX11_conflictsWithout_21 : decode cX11_conflictsWithout 21 = .ok (.iaload, 1) := by decide +kernel
theorem dX11_conflictsWithout_22 : decode cX11_conflictsWithout 22 = .ok (.if_icmp .ge 44, 3) := by decide +kernel
theorem dX11_conflictsWithout_25 : decode cX11_conflictsWithout 25 = .ok (.aload_n 0, 1) := by decide +kernel
theorem dX11_conflictsWithout_26 : decode cX11_conflictsWithout 26 = .ok (.iload_n 2, 1) := by decide +kernel
theorem dX11_conflictsWithout_27 : decode cX11_conflictsWithout 27 = .ok (.invokevirtual 226, 3) := by decide +kernel
theorem dX11_conflictsWithout_30 : decode cX11_conflictsWithout 30 = .ok (.iconst 0, 1) := by decide +kernel
theorem dX11_conflictsWithout_31 : decode cX11_conflictsWithout 31 = .ok (.istore_n 3, 1) := by decide +kernel
theorem dX11_conflictsWithout_32 : decode cX11_conflictsWithout 32 = .ok (.iload_n 3, 1) := by decide +kernel
theorem dX11_conflictsWithout_33 : decode cX11_conflictsWithout 33 = .ok (.iload_n 2, 1) := by decide +kernel
theorem dX11_conflictsWithout_34 : decode cX11_conflictsWithout 34 = .ok (.if_icmp .ge 26, 3) := by decide +kernel
theorem dX11_conflictsWithout_37 : decode cX11_conflictsWithout 37 = .ok (.iload_n 1, 1) := by decide +kernel
theorem dX11_conflictsWithout_38 : decode cX11_conflictsWithout 38 = .ok (.aload_n 0, 1) := by decide +kernel
theorem dX11_conflictsWithout_39 : decode cX11_conflictsWithout 39 = .ok (.iload_n 2, 1) := by decide +kernel
theorem dX11_conflictsWithout_40 : decode cX11_conflictsWithout 40 = .ok (.iload_n 3, 1) := by decide +kernel
theorem dX11_conflictsWithout_41 : decode cX11_conflictsWithout 41 = .ok (.invokevirtual 229, 3) := by decide +kernel
theorem dX11_conflictsWithout_44 : decode cX11_conflictsWithout 44 = .ok (.ifCond .eq 7, 3) := by decide +kernel
theorem dX11_conflictsWithout_47 : decode cX11_conflictsWithout 47 = .ok (.iconst 1, 1) := by decide +kernel
theorem dX11_conflictsWithout_48 : decode cX11_conflictsWithout 48 = .ok (.goto 4, 3) := by decide +kernel
theorem dX11_conflictsWithout_51 : decode cX11_conflictsWithout 51 = .ok (.iconst 0, 1) := by decide +kernel
theorem dX11_conflictsWithout_52 : decode cX11_conflictsWithout 52 = .ok (.iadd, 1) := by decide +kernel
theorem dX11_conflictsWithout_53 : decode cX11_conflictsWithout 53 = .ok (.istore_n 1, 1) := by decide +kernel
theorem dX11_conflictsWithout_54 : decode cX11_conflictsWithout 54 = .ok (.iinc 3 1, 3) := by decide +kernel
theorem dX11_conflictsWithout_57 : decode cX11_conflictsWithout 57 = .ok (.goto (-25), 3) := by decide +kernel
theorem dX11_conflictsWithout_60 : decode cX11_conflictsWithout 60 = .ok (.iinc 2 1, 3) := by decide +kernel
theorem dX11_conflictsWithout_63 : decode cX11_conflictsWithout 63 = .ok (.goto (-49), 3) := by decide +kernel
theorem dX11_conflictsWithout_66 : decode cX11_conflictsWithout 66 = .ok (.iload_n 1, 1) := by decide +kernel
theorem dX11_conflictsWithout_67 : decode cX11_conflictsWithout 67 = .ok (.ireturn, 1) := by decide +kernel
theorem dX11_fly_0 : decode cX11_fly 0 = .ok (.iload_n 1, 1) := by decide +kernel
theorem dX11_fly_1 : decode cX11_fly 1 = .ok (.iconst 1, 1) := by decide +kernel
theorem dX11_fly_2 : decode cX11_fly 2 = .ok (.bipush 60, 2) := by decide +kernel
theorem dX11_fly_4 : decode cX11_fly 4 = .ok (.invokestatic 73, 3) := by decide +kernel
theorem dX11_fly_7 : decode cX11_fly 7 = .ok (.ifCond .ne 6, 3) := by decide +kernel
theorem dX11_fly_10 : decode cX11_fly 10 = .ok (.bipush (-2), 2) := by decide +kernel
theorem dX11_fly_12 : decode cX11_fly 12 = .ok (.ireturn, 1) := by decide +kernel
theorem dX11_fly_13 : decode cX11_fly 13 = .ok (.aload_n 0, 1) := by decide +kernel
theorem dX11_fly_14 : decode cX11_fly 14 = .ok (.getfield 69, 3) := by decide +kernel
theorem dX11_fly_17 : decode cX11_fly 17 = .ok (.ifCond .ne 6, 3) := by decide +kernel
theorem dX11_fly_20 : decode cX11_fly 20 = .ok (.bipush (-7), 2) := by decide +kernel
theorem dX11_fly_22 : decode cX11_fly 22 = .ok (.ireturn, 1) := by decide +kernel
theorem dX11_fly_23 : decode cX11_fly 23 = .ok (.aload_n 0, 1) := by decide +kernel
theorem dX11_fly_24 : decode cX11_fly 24 = .ok (.invokevirtual 80, 3) := by decide +kernel
theorem dX11_fly_27 : decode cX11_fly 27 = .ok (.aload_n 0, 1) := by decide +kernel
theorem dX11_fly_28 : decode cX11_fly 28 = .ok (.dup, 1) := by decide +kernel
theorem dX11_fly_29 : decode cX11_fly 29 = .ok (.getfield 192, 3) := by decide +kernel
theorem dX11_fly_32 : decode cX11_fly 32 = .ok (.iload_n 1, 1) := by decide +kernel
theorem dX11_fly_33 : decode cX11_fly 33 = .ok (.iadd, 1) := by decide +kernel
theorem dX11_fly_34 : decode cX11_fly 34 = .ok (.putfield 192, 3) := by decide +kernel
theorem dX11_fly_37 : decode cX11_fly 37 = .ok (.aload_n 0, 1) := by decide +kernel
theorem dX11_fly_38 : decode cX11_fly 38 = .ok (.getfield 9, 3) := by decide +kernel
theorem dX11_fly_41 : decode cX11_fly 41 = .ok (.bipush 125, 2) := by decide +kernel
theorem dX11_fly_43 : decode cX11_fly 43 = .ok (.dup2, 1) := by decide +kernel
theorem dX11_fly_44 : decode cX11_fly 44 = .ok (.iaload, 1) := by decide +kernel
theorem dX11_fly_45 : decode cX11_fly 45 = .ok (.iload_n 1, 1) := by decide +kernel
theorem dX11_fly_46 : decode cX11_fly 46 = .ok (.iadd, 1) := by decide +kernel
theorem dX11_fly_47 : decode cX11_fly 47 = .ok (.iastore, 1) := by decide +kernel
theorem dX11_fly_48 : decode cX11_fly 48 = .ok (.iconst 0, 1) := by decide +kernel
theorem dX11_fly_49 : decode cX11_fly 49 = .ok (.istore_n 2, 1) := by decide +kernel
theorem dX11_fly_50 : decode cX11_fly 50 = .ok (.iconst 0, 1) := by decide +kernel
theorem dX11_fly_51 : decode cX11_fly 51 = .ok (.istore_n 3, 1) := by decide +kernel
theorem dX11_fly_52 : decode cX11_fly 52 = .ok (.iload_n 3, 1) := by decide +kernel
theorem dX11_fly_53 : decode cX11_fly 53 = .ok (.aload_n 0, 1) := by decide +kernel
theorem dX11_fly_54 : decode cX11_fly 54 = .ok (.getfield 9, 3) := by decide +kernel
theorem dX11_fly_57 : decode cX11_fly 57 = .ok (.bipush 111, 2) := by decide +kernel
theorem dX11_fly_59 : decode cX11_fly 59 = .ok (.iaload, 1) := by decide +kernel
theorem dX11_fly_60 : decode cX11_fly 60 = .ok (.if_icmp .ge 48, 3) := by decide +kernel
theorem dX11_fly_63 : decode cX11_fly 63 = .ok (.aload_n 0, 1) := by decide +kernel
theorem dX11_fly_64 : decode cX11_fly 64 = .ok (.getfield 9, 3) := by decide +kernel
theorem dX11_fly_67 : decode cX11_fly 67 = .ok (.bipush 112, 2) := by decide +kernel
theorem dX11_fly_69 : decode cX11_fly 69 = .ok (.iload_n 3, 1) := by decide +kernel
theorem dX11_fly_70 : decode cX11_fly 70 = .ok (.iadd, 1) := by decide +kernel
theorem dX11_fly_71 : decode cX11_fly 71 = .ok (.aload_n 0, 1) := by decide +kernel
theorem dX11_fly_72 : decode cX11_fly 72 = .ok (.iload_n 3, 1) := by decide +kernel
theorem dX11_fly_73 : decode cX11_fly 73 = .ok (.aload_n 0, 1) := by decide +kernel
theorem dX11_fly_74 : decode cX11_fly 74 = .ok (.getfield 192, 3) := by decide +kernel
theorem dX11_fly_77 : decode cX11_fly 77 = .ok (.invokevirtual 210, 3) := by decide +kernel
theorem dX11_fly_80 : decode cX11_fly 80 = .ok (.iastore, 1) := by decide +kernel
theorem dX11_fly_81 : decode cX11_fly 81 = .ok (.iload_n 2, 1) := by decide +kernel
theorem dX11_fly_82 : decode cX11_fly 82 = .ok (.aload_n 0, 1) := by decide +kernel
theorem dX11_fly_83 : decode cX11_fly 83 = .ok (.getfield 45, 3) := by decide +kernel
theorem dX11_fly_86 : decode cX11_fly 86 = .ok (.iload_n 3, 1) := by decide +kernel
theorem dX11_fly_87 : decode cX11_fly 87 = .ok (.iaload, 1) := by decide +kernel
theorem dX11_fly_88 : decode cX11_fly 88 = .ok (.aload_n 0, 1) := by decide +kernel
theorem dX11_fly_89 : decode cX11_fly 89 = .ok (.getfield 192, 3) := by decide +kernel
theorem dX11_fly_92 : decode cX11_fly 92 = .ok (.if_icmp .gt 7, 3) := by decide +kernel
theorem dX11_fly_95 : decode cX11_fly 95 = .ok (.iconst 1, 1) := by decide +kernel
theorem dX11_fly_96 : decode cX11_fly 96 = .ok (.goto 4, 3) := by decide +kernel
theorem dX11_fly_99 : decode cX11_fly 99 = .ok (.iconst 0, 1) := by decide +kernel
theorem dX11_fly_100 : decode cX11_fly 100 = .ok (.iadd, 1) := by decide +kernel
theorem dX11_fly_101 : decode cX11_fly 101 = .ok (.istore_n 2, 1) := by decide +kernel
theorem dX11_fly_102 : decode cX11_fly 102 = .ok (.iinc 3 1, 3) := by decide +kernel
theorem dX11_fly_105 : decode cX11_fly 105 = .ok (.goto (-53), 3) := by decide +kernel
theorem dX11_fly_108 : decode cX11_fly 108 = .ok (.iload_n 2, 1) := by decide +kernel
theorem dX11_fly_109 : decode cX11_fly 109 = .ok (.ireturn, 1) := by decide +kernel
theorem dX11_cellOf_0 : decode cX11_cellOf 0 = .ok (.iload_n 1, 1) := by decide +kernel
theorem dX11_cellOf_1 : decode cX11_cellOf 1 = .ok (.iconst 0, 1) := by decide +kernel
theorem dX11_cellOf_2 : decode cX11_cellOf 2 = .ok (.iconst 1, 1) := by decide +kernel
theorem dX11_cellOf_3 : decode cX11_cellOf 3 = .ok (.invokestatic 73, 3) := by decide +kernel
theorem dX11_cellOf_6 : decode cX11_cellOf 6 = .ok (.ifCond .ne 6, 3) := by decide +kernel
theorem dX11_cellOf_9 : decode cX11_cellOf 9 = .ok (.bipush (-2), 2) := by decide +kernel
theorem dX11_cellOf_11 : decode cX11_cellOf 11 = .ok (.ireturn, 1) := by decide +kernel
theorem dX11_cellOf_12 : decode cX11_cellOf 12 = .ok (.iload_n 1, 1) := by decide +kernel
theorem dX11_cellOf_13 : decode cX11_cellOf 13 = .ok (.ifCond .ne 25, 3) := by decide +kernel
theorem dX11_cellOf_16 : decode cX11_cellOf 16 = .ok (.aload_n 0, 1) := by decide +kernel
theorem dX11_cellOf_17 : decode cX11_cellOf 17 = .ok (.iload_n 2, 1) := by decide +kernel
theorem dX11_cellOf_18 : decode cX11_cellOf 18 = .ok (.invokevirtual 102, 3) := by decide +kernel
theorem dX11_cellOf_21 : decode cX11_cellOf 21 = .ok (.ifCond .eq 15, 3) := by decide +kernel
theorem dX11_cellOf_24 : decode cX11_cellOf 24 = .ok (.aload_n 0, 1) := by decide +kernel
theorem dX11_cellOf_25 : decode cX11_cellOf 25 = .ok (.getfield 9, 3) := by decide +kernel
theorem dX11_cellOf_28 : decode cX11_cellOf 28 = .ok (.bipush 112, 2) := by decide +kernel
theorem dX11_cellOf_30 : decode cX11_cellOf 30 = .ok (.iload_n 2, 1) := by decide +kernel
theorem dX11_cellOf_31 : decode cX11_cellOf 31 = .ok (.iadd, 1) := by decide +kernel
theorem dX11_cellOf_32 : decode cX11_cellOf 32 = .ok (.iaload, 1) := by decide +kernel
theorem dX11_cellOf_33 : decode cX11_cellOf 33 = .ok (.goto 4, 3) := by decide +kernel
theorem dX11_cellOf_36 : decode cX11_cellOf 36 = .ok (.iconst (-1), 1) := by decide +kernel
theorem dX11_cellOf_37 : decode cX11_cellOf 37 = .ok (.ireturn, 1) := by decide +kernel
theorem dX11_cellOf_38 : decode cX11_cellOf 38 = .ok (.iload_n 2, 1) := by decide +kernel
theorem dX11_cellOf_39 : decode cX11_cellOf 39 = .ok (.iconst 0, 1) := by decide +kernel
theorem dX11_cellOf_40 : decode cX11_cellOf 40 = .ok (.aload_n 0, 1) := by decide +kernel
theorem dX11_cellOf_41 : decode cX11_cellOf 41 = .ok (.getfield 9, 3) := by decide +kernel
theorem dX11_cellOf_44 : decode cX11_cellOf 44 = .ok (.bipush 118, 2) := by decide +kernel
theorem dX11_cellOf_46 : decode cX11_cellOf 46 = .ok (.iaload, 1) := by decide +kernel
theorem dX11_cellOf_47 : decode cX11_cellOf 47 = .ok (.iconst 1, 1) := by decide +kernel
theorem dX11_cellOf_48 : decode cX11_cellOf 48 = .ok (.isub, 1) := by decide +kernel
theorem dX11_cellOf_49 : decode cX11_cellOf 49 = .ok (.invokestatic 73, 3) := by decide +kernel
theorem dX11_cellOf_52 : decode cX11_cellOf 52 = .ok (.ifCond .eq 15, 3) := by decide +kernel
theorem dX11_cellOf_55 : decode cX11_cellOf 55 = .ok (.aload_n 0, 1) := by decide +kernel
theorem dX11_cellOf_56 : decode cX11_cellOf 56 = .ok (.getfield 9, 3) := by decide +kernel
theorem dX11_cellOf_59 : decode cX11_cellOf 59 = .ok (.bipush 119, 2) := by decide +kernel
theorem dX11_cellOf_61 : decode cX11_cellOf 61 = .ok (.iload_n 2, 1) := by decide +kernel
theorem dX11_cellOf_62 : decode cX11_cellOf 62 = .ok (.iadd, 1) := by decide +kernel
theorem dX11_cellOf_63 : decode cX11_cellOf 63 = .ok (.iaload, 1) := by decide +kernel
theorem dX11_cellOf_64 : decode cX11_cellOf 64 = .ok (.goto 4, 3) := by decide +kernel
theorem dX11_cellOf_67 : decode cX11_cellOf 67 = .ok (.iconst (-1), 1) := by decide +kernel
theorem dX11_cellOf_68 : decode cX11_cellOf 68 = .ok (.ireturn, 1) := by decide +kernel
theorem dX11_look_0 : decode cX11_look 0 = .ok (.iload_n 1, 1) := by decide +kernel
theorem dX11_look_1 : decode cX11_look 1 = .ok (.invokestatic 88, 3) := by decide +kernel
theorem dX11_look_4 : decode cX11_look 4 = .ok (.ifCond .ne 6, 3) := by decide +kernel
theorem dX11_look_7 : decode cX11_look 7 = .ok (.bipush (-2), 2) := by decide +kernel
theorem dX11_look_9 : decode cX11_look 9 = .ok (.ireturn, 1) := by decide +kernel
theorem dX11_look_10 : decode cX11_look 10 = .ok (.aload_n 0, 1) := by decide +kernel
theorem dX11_look_11 : decode cX11_look 11 = .ok (.iload_n 1, 1) := by decide +kernel
theorem dX11_look_12 : decode cX11_look 12 = .ok (.invokevirtual 99, 3) := by decide +kernel
theorem dX11_look_15 : decode cX11_look 15 = .ok (.ifCond .eq 7, 3) := by decide +kernel
theorem dX11_look_18 : decode cX11_look 18 = .ok (.iconst 1, 1) := by decide +kernel
theorem dX11_look_19 : decode cX11_look 19 = .ok (.goto 24, 3) := by decide +kernel
theorem dX11_look_22 : decode cX11_look 22 = .ok (.bipush 10, 2) := by decide +kernel
theorem dX11_look_24 : decode cX11_look 24 = .ok (.aload_n 0, 1) := by decide +kernel
theorem dX11_look_25 : decode cX11_look 25 = .ok (.iload_n 1, 1) := by decide +kernel
theorem dX11_look_26 : decode cX11_look 26 = .ok (.invokevirtual 92, 3) := by decide +kernel
theorem dX11_look_29 : decode cX11_look 29 = .ok (.iconst 1, 1) := by decide +kernel
theorem dX11_look_30 : decode cX11_look 30 = .ok (.iadd, 1) := by decide +kernel
theorem dX11_look_31 : decode cX11_look 31 = .ok (.imul, 1) := by decide +kernel
theorem dX11_look_32 : decode cX11_look 32 = .ok (.bipush 100, 2) := by decide +kernel
theorem dX11_look_34 : decode cX11_look 34 = .ok (.aload_n 0, 1) := by decide +kernel
theorem dX11_look_35 : decode cX11_look 35 = .ok (.iload_n 1, 1) := by decide +kernel
theorem dX11_look_36 : decode cX11_look 36 = .ok (.invokevirtual 96, 3) := by decide +kernel
theorem dX11_look_39 : decode cX11_look 39 = .ok (.iconst 1, 1) := by decide +kernel
theorem dX11_look_40 : decode cX11_look 40 = .ok (.iadd, 1) := by decide +kernel
theorem dX11_look_41 : decode cX11_look 41 = .ok (.imul, 1) := by decide +kernel
theorem dX11_look_42 : decode cX11_look 42 = .ok (.iadd, 1) := by decide +kernel
theorem dX11_look_43 : decode cX11_look 43 = .ok (.ireturn, 1) := by decide +kernel
theorem dX11_obstacles_0 : decode cX11_obstacles 0 = .ok (.iconst 0, 1) := by decide +kernel
theorem dX11_obstacles_1 : decode cX11_obstacles 1 = .ok (.istore_n 1, 1) := by decide +kernel
theorem dX11_obstacles_2 : decode cX11_obstacles 2 = .ok (.iconst 0, 1) := by decide +kernel
theorem dX11_obstacles_3 : decode cX11_obstacles 3 = .ok (.istore_n 2, 1) := by decide +kernel
theorem dX11_obstacles_4 : decode cX11_obstacles 4 = .ok (.iload_n 2, 1) := by decide +kernel
theorem dX11_obstacles_5 : decode cX11_obstacles 5 = .ok (.bipush 108, 2) := by decide +kernel
theorem dX11_obstacles_7 : decode cX11_obstacles 7 = .ok (.if_icmp .ge 20, 3) := by decide +kernel
theorem dX11_obstacles_10 : decode cX11_obstacles 10 = .ok (.iload_n 1, 1) := by decide +kernel
theorem dX11_obstacles_11 : decode cX11_obstacles 11 = .ok (.aload_n 0, 1) := by decide +kernel
theorem dX11_obstacles_12 : decode cX11_obstacles 12 = .ok (.getfield 9, 3) := by decide +kernel
theorem dX11_obstacles_15 : decode cX11_obstacles 15 = .ok (.iconst 3, 1) := by decide +kernel
theorem dX11_obstacles_16 : decode cX11_obstacles 16 = .ok (.iload_n 2, 1) := by decide +kernel
theorem dX11_obstacles_17 : decode cX11_obstacles 17 = .ok (.iadd, 1) := by decide +kernel
theorem dX11_obstacles_18 : decode cX11_obstacles 18 = .ok (.iaload, 1) := by decide +kernel
theorem dX11_obstacles_19 : decode cX11_obstacles 19 = .ok (.iadd, 1) := by decide +kernel
theorem dX11_obstacles_20 : decode cX11_obstacles 20 = .ok (.istore_n 1, 1) := by decide +kernel
theorem dX11_obstacles_21 : decode cX11_obstacles 21 = .ok (.iinc 2 1, 3) := by decide +kernel
theorem dX11_obstacles_24 : decode cX11_obstacles 24 = .ok (.goto (-20), 3) := by decide +kernel
theorem dX11_obstacles_27 : decode cX11_obstacles 27 = .ok (.iload_n 1, 1) := by decide +kernel
theorem dX11_obstacles_28 : decode cX11_obstacles 28 = .ok (.ireturn, 1) := by decide +kernel
theorem dX11_dronesAtSlots_0 : decode cX11_dronesAtSlots 0 = .ok (.iconst 0, 1) := by decide +kernel
theorem dX11_dronesAtSlots_1 : decode cX11_dronesAtSlots 1 = .ok (.istore_n 1, 1) := by decide +kernel
theorem dX11_dronesAtSlots_2 : decode cX11_dronesAtSlots 2 = .ok (.iconst 0, 1) := by decide +kernel
theorem dX11_dronesAtSlots_3 : decode cX11_dronesAtSlots 3 = .ok (.istore_n 2, 1) := by decide +kernel
theorem dX11_dronesAtSlots_4 : decode cX11_dronesAtSlots 4 = .ok (.iload_n 2, 1) := by decide +kernel
theorem dX11_dronesAtSlots_5 : decode cX11_dronesAtSlots 5 = .ok (.aload_n 0, 1) := by decide +kernel
theorem dX11_dronesAtSlots_6 : decode cX11_dronesAtSlots 6 = .ok (.getfield 9, 3) := by decide +kernel
theorem dX11_dronesAtSlots_9 : decode cX11_dronesAtSlots 9 = .ok (.bipush 111, 2) := by decide +kernel
theorem dX11_dronesAtSlots_11 : decode cX11_dronesAtSlots 11 = .ok (.iaload, 1) := by decide +kernel
theorem dX11_dronesAtSlots_12 : decode cX11_dronesAtSlots 12 = .ok (.if_icmp .ge 33, 3) := by decide +kernel
theorem dX11_dronesAtSlots_15 : decode cX11_dronesAtSlots 15 = .ok (.iload_n 1, 1) := by decide +kernel
theorem dX11_dronesAtSlots_16 : decode cX11_dronesAtSlots 16 = .ok (.aload_n 0, 1) := by decide +kernel
theorem dX11_dronesAtSlots_17 : decode cX11_dronesAtSlots 17 = .ok (.aload_n 0, 1) := by decide +kernel
theorem dX11_dronesAtSlots_18 : decode cX11_dronesAtSlots 18 = .ok (.getfield 9, 3) := by decide +kernel
theorem dX11_dronesAtSlots_21 : decode cX11_dronesAtSlots 21 = .ok (.bipush 112, 2) := by decide +kernel
theorem dX11_dronesAtSlots_23 : decode cX11_dronesAtSlots 23 = .ok (.iload_n 2, 1) := by decide +kernel
theorem dX11_dronesAtSlots_24 : decode cX11_dronesAtSlots 24 = .ok (.iadd, 1) := by decide +kernel
theorem dX11_dronesAtSlots_25 : decode cX11_dronesAtSlots 25 = .ok (.iaload, 1) := by decide +kernel
theorem dX11_dronesAtSlots_26 : decode cX11_dronesAtSlots 26 = .ok (.invokevirtual 96, 3) := by decide +kernel
theorem dX11_dronesAtSlots_29 : decode cX11_dronesAtSlots 29 = .ok (.ifCond .lt 7, 3) := by decide +kernel
theorem dX11_dronesAtSlots_32 : decode cX11_dronesAtSlots 32 = .ok (.iconst 1, 1) := by decide +kernel
theorem dX11_dronesAtSlots_33 : decode cX11_dronesAtSlots 33 = .ok (.goto 4, 3) := by decide +kernel
theorem dX11_dronesAtSlots_36 : decode cX11_dronesAtSlots 36 = .ok (.iconst 0, 1) := by decide +kernel
theorem dX11_dronesAtSlots_37 : decode cX11_dronesAtSlots 37 = .ok (.iadd, 1) := by decide +kernel
theorem dX11_dronesAtSlots_38 : decode cX11_dronesAtSlots 38 = .ok (.istore_n 1, 1) := by decide +kernel
theorem dX11_dronesAtSlots_39 : decode cX11_dronesAtSlots 39 = .ok (.iinc 2 1, 3) := by decide +kernel
theorem dX11_dronesAtSlots_42 : decode cX11_dronesAtSlots 42 = .ok (.goto (-38), 3) := by decide +kernel
theorem dX11_dronesAtSlots_45 : decode cX11_dronesAtSlots 45 = .ok (.iload_n 1, 1) := by decide +kernel
theorem dX11_dronesAtSlots_46 : decode cX11_dronesAtSlots 46 = .ok (.ireturn, 1) := by decide +kernel
theorem dX11_count_0 : decode cX11_count 0 = .ok (.iload_n 1, 1) := by decide +kernel
theorem dX11_count_1 : decode cX11_count 1 = .ok (.tableswitch 104 0 7 #[47, 55, 63, 68, 73, 81, 86, 91], 47) := by decide +kernel
theorem dX11_count_48 : decode cX11_count 48 = .ok (.aload_n 0, 1) := by decide +kernel
theorem dX11_count_49 : decode cX11_count 49 = .ok (.getfield 9, 3) := by decide +kernel
theorem dX11_count_52 : decode cX11_count 52 = .ok (.bipush 111, 2) := by decide +kernel
theorem dX11_count_54 : decode cX11_count 54 = .ok (.iaload, 1) := by decide +kernel
theorem dX11_count_55 : decode cX11_count 55 = .ok (.ireturn, 1) := by decide +kernel
theorem dX11_count_56 : decode cX11_count 56 = .ok (.aload_n 0, 1) := by decide +kernel
theorem dX11_count_57 : decode cX11_count 57 = .ok (.getfield 9, 3) := by decide +kernel
theorem dX11_count_60 : decode cX11_count 60 = .ok (.bipush 118, 2) := by decide +kernel
theorem dX11_count_62 : decode cX11_count 62 = .ok (.iaload, 1) := by decide +kernel
theorem dX11_count_63 : decode cX11_count 63 = .ok (.ireturn, 1) := by decide +kernel
theorem dX11_count_64 : decode cX11_count 64 = .ok (.aload_n 0, 1) := by decide +kernel
theorem dX11_count_65 : decode cX11_count 65 = .ok (.invokevirtual 232, 3) := by decide +kernel
theorem dX11_count_68 : decode cX11_count 68 = .ok (.ireturn, 1) := by decide +kernel
theorem dX11_count_69 : decode cX11_count 69 = .ok (.aload_n 0, 1) := by decide +kernel
theorem dX11_count_70 : decode cX11_count 70 = .ok (.invokevirtual 235, 3) := by decide +kernel
theorem dX11_count_73 : decode cX11_count 73 = .ok (.ireturn, 1) := by decide +kernel
theorem dX11_count_74 : decode cX11_count 74 = .ok (.aload_n 0, 1) := by decide +kernel
theorem dX11_count_75 : decode cX11_count 75 = .ok (.getfield 9, 3) := by decide +kernel
theorem dX11_count_78 : decode cX11_count 78 = .ok (.bipush 125, 2) := by decide +kernel
theorem dX11_count_80 : decode cX11_count 80 = .ok (.iaload, 1) := by decide +kernel
theorem dX11_count_81 : decode cX11_count 81 = .ok (.ireturn, 1) := by decide +kernel
theorem dX11_count_82 : decode cX11_count 82 = .ok (.aload_n 0, 1) := by decide +kernel
theorem dX11_count_83 : decode cX11_count 83 = .ok (.getfield 77, 3) := by decide +kernel
theorem dX11_count_86 : decode cX11_count 86 = .ok (.ireturn, 1) := by decide +kernel
theorem dX11_count_87 : decode cX11_count 87 = .ok (.aload_n 0, 1) := by decide +kernel
theorem dX11_count_88 : decode cX11_count 88 = .ok (.getfield 105, 3) := by decide +kernel
theorem dX11_count_91 : decode cX11_count 91 = .ok (.ireturn, 1) := by decide +kernel
theorem dX11_count_92 : decode cX11_count 92 = .ok (.aload_n 0, 1) := by decide +kernel
theorem dX11_count_93 : decode cX11_count 93 = .ok (.getfield 69, 3) := by decide +kernel
theorem dX11_count_96 : decode cX11_count 96 = .ok (.ifCond .eq 7, 3) := by decide +kernel
theorem dX11_count_99 : decode cX11_count 99 = .ok (.iconst 1, 1) := by decide +kernel
theorem dX11_count_100 : decode cX11_count 100 = .ok (.goto 4, 3) := by decide +kernel
theorem dX11_count_103 : decode cX11_count 103 = .ok (.iconst 0, 1) := by decide +kernel
theorem dX11_count_104 : decode cX11_count 104 = .ok (.ireturn, 1) := by decide +kernel
theorem dX11_count_105 : decode cX11_count 105 = .ok (.bipush (-2), 2) := by decide +kernel
theorem dX11_count_107 : decode cX11_count 107 = .ok (.ireturn, 1) := by decide +kernel
