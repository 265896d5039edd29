theorem dX11_init_0 : decode cX11_init 0 = .ok (.aload_n 0, 1) := by decide +kernel
theorem dX11_init_1 : decode cX11_init 1 = .ok (.invokespecial 3, 3) := by decide +kernel
theorem dX11_init_4 : decode cX11_init 4 = .ok (.aload_n 0, 1) := by decide +kernel
theorem dX11_init_5 : decode cX11_init 5 = .ok (.bipush 126, 2) := by decide +kernel
theorem dX11_init_7 : decode cX11_init 7 = .ok (.newarray .int, 2) := by decide +kernel
theorem dX11_init_9 : decode cX11_init 9 = .ok (.putfield 9, 3) := by decide +kernel
theorem dX11_init_12 : decode cX11_init 12 = .ok (.aload_n 0, 1) := by decide +kernel
theorem dX11_init_13 : decode cX11_init 13 = .ok (.sipush 1008, 3) := by decide +kernel
theorem dX11_init_16 : decode cX11_init 16 = .ok (.newarray .int, 2) := by decide +kernel
theorem dX11_init_18 : decode cX11_init 18 = .ok (.putfield 13, 3) := by decide +kernel
theorem dX11_init_21 : decode cX11_init 21 = .ok (.aload_n 0, 1) := by decide +kernel
theorem dX11_init_22 : decode cX11_init 22 = .ok (.bipush 60, 2) := by decide +kernel
theorem dX11_init_24 : decode cX11_init 24 = .ok (.newarray .int, 2) := by decide +kernel
theorem dX11_init_26 : decode cX11_init 26 = .ok (.putfield 16, 3) := by decide +kernel
theorem dX11_init_29 : decode cX11_init 29 = .ok (.aload_n 0, 1) := by decide +kernel
theorem dX11_init_30 : decode cX11_init 30 = .ok (.bipush 60, 2) := by decide +kernel
theorem dX11_init_32 : decode cX11_init 32 = .ok (.newarray .int, 2) := by decide +kernel
theorem dX11_init_34 : decode cX11_init 34 = .ok (.putfield 19, 3) := by decide +kernel
theorem dX11_init_37 : decode cX11_init 37 = .ok (.aload_n 0, 1) := by decide +kernel
theorem dX11_init_38 : decode cX11_init 38 = .ok (.sipush 11664, 3) := by decide +kernel
theorem dX11_init_41 : decode cX11_init 41 = .ok (.newarray .int, 2) := by decide +kernel
theorem dX11_init_43 : decode cX11_init 43 = .ok (.putfield 22, 3) := by decide +kernel
theorem dX11_init_46 : decode cX11_init 46 = .ok (.aload_n 0, 1) := by decide +kernel
theorem dX11_init_47 : decode cX11_init 47 = .ok (.bipush 108, 2) := by decide +kernel
theorem dX11_init_49 : decode cX11_init 49 = .ok (.newarray .boolean, 2) := by decide +kernel
theorem dX11_init_51 : decode cX11_init 51 = .ok (.putfield 25, 3) := by decide +kernel
theorem dX11_init_54 : decode cX11_init 54 = .ok (.aload_n 0, 1) := by decide +kernel
theorem dX11_init_55 : decode cX11_init 55 = .ok (.bipush 6, 2) := by decide +kernel
theorem dX11_init_57 : decode cX11_init 57 = .ok (.newarray .int, 2) := by decide +kernel
theorem dX11_init_59 : decode cX11_init 59 = .ok (.putfield 29, 3) := by decide +kernel
theorem dX11_init_62 : decode cX11_init 62 = .ok (.aload_n 0, 1) := by decide +kernel
theorem dX11_init_63 : decode cX11_init 63 = .ok (.bipush 6, 2) := by decide +kernel
theorem dX11_init_65 : decode cX11_init 65 = .ok (.newarray .int, 2) := by decide +kernel
theorem dX11_init_67 : decode cX11_init 67 = .ok (.putfield 32, 3) := by decide +kernel
theorem dX11_init_70 : decode cX11_init 70 = .ok (.aload_n 0, 1) := by decide +kernel
theorem dX11_init_71 : decode cX11_init 71 = .ok (.iconst (-1), 1) := by decide +kernel
theorem dX11_init_72 : decode cX11_init 72 = .ok (.putfield 35, 3) := by decide +kernel
theorem dX11_init_75 : decode cX11_init 75 = .ok (.aload_n 0, 1) := by decide +kernel
theorem dX11_init_76 : decode cX11_init 76 = .ok (.sipush 366, 3) := by decide +kernel
theorem dX11_init_79 : decode cX11_init 79 = .ok (.newarray .int, 2) := by decide +kernel
theorem dX11_init_81 : decode cX11_init 81 = .ok (.putfield 39, 3) := by decide +kernel
theorem dX11_init_84 : decode cX11_init 84 = .ok (.aload_n 0, 1) := by decide +kernel
theorem dX11_init_85 : decode cX11_init 85 = .ok (.sipush 366, 3) := by decide +kernel
theorem dX11_init_88 : decode cX11_init 88 = .ok (.newarray .int, 2) := by decide +kernel
theorem dX11_init_90 : decode cX11_init 90 = .ok (.putfield 42, 3) := by decide +kernel
theorem dX11_init_93 : decode cX11_init 93 = .ok (.aload_n 0, 1) := by decide +kernel
theorem dX11_init_94 : decode cX11_init 94 = .ok (.bipush 6, 2) := by decide +kernel
theorem dX11_init_96 : decode cX11_init 96 = .ok (.newarray .int, 2) := by decide +kernel
theorem dX11_init_98 : decode cX11_init 98 = .ok (.putfield 45, 3) := by decide +kernel
theorem dX11_init_101 : decode cX11_init 101 = .ok (.aload_n 0, 1) := by decide +kernel
theorem dX11_init_102 : decode cX11_init 102 = .ok (.bipush 6, 2) := by decide +kernel
theorem dX11_init_104 : decode cX11_init 104 = .ok (.newarray .int, 2) := by decide +kernel
theorem dX11_init_106 : decode cX11_init 106 = .ok (.putfield 48, 3) := by decide +kernel
theorem dX11_init_109 : decode cX11_init 109 = .ok (.aload_n 0, 1) := by decide +kernel
theorem dX11_init_110 : decode cX11_init 110 = .ok (.bipush 6, 2) := by decide +kernel
theorem dX11_init_112 : decode cX11_init 112 = .ok (.newarray .int, 2) := by decide +kernel
theorem dX11_init_114 : decode cX11_init 114 = .ok (.putfield 51, 3) := by decide +kernel
theorem dX11_init_117 : decode cX11_init 117 = .ok (.aload_n 0, 1) := by decide +kernel
theorem dX11_init_118 : decode cX11_init 118 = .ok (.bipush 6, 2) := by decide +kernel
theorem dX11_init_120 : decode cX11_init 120 = .ok (.newarray .int, 2) := by decide +kernel
theorem dX11_init_122 : decode cX11_init 122 = .ok (.putfield 54, 3) := by decide +kernel
theorem dX11_init_125 : decode cX11_init 125 = .ok (.aload_n 0, 1) := by decide +kernel
theorem dX11_init_126 : decode cX11_init 126 = .ok (.sipush 6588, 3) := by decide +kernel
theorem dX11_init_129 : decode cX11_init 129 = .ok (.newarray .int, 2) := by decide +kernel
theorem dX11_init_131 : decode cX11_init 131 = .ok (.putfield 57, 3) := by decide +kernel
theorem dX11_init_134 : decode cX11_init 134 = .ok (.aload_n 0, 1) := by decide +kernel
theorem dX11_init_135 : decode cX11_init 135 = .ok (.sipush 6588, 3) := by decide +kernel
theorem dX11_init_138 : decode cX11_init 138 = .ok (.newarray .boolean, 2) := by decide +kernel
theorem dX11_init_140 : decode cX11_init 140 = .ok (.putfield 60, 3) := by decide +kernel
theorem dX11_init_143 : decode cX11_init 143 = .ok (.aload_n 0, 1) := by decide +kernel
theorem dX11_init_144 : decode cX11_init 144 = .ok (.sipush 6588, 3) := by decide +kernel
theorem dX11_init_147 : decode cX11_init 147 = .ok (.newarray .boolean, 2) := by decide +kernel
theorem dX11_init_149 : decode cX11_init 149 = .ok (.putfield 63, 3) := by decide +kernel
theorem dX11_init_152 : decode cX11_init 152 = .ok (.aload_n 0, 1) := by decide +kernel
theorem dX11_init_153 : decode cX11_init 153 = .ok (.sipush 1800, 3) := by decide +kernel
theorem dX11_init_156 : decode cX11_init 156 = .ok (.newarray .int, 2) := by decide +kernel
theorem dX11_init_158 : decode cX11_init 158 = .ok (.putfield 66, 3) := by decide +kernel
theorem dX11_init_161 : decode cX11_init 161 = .ok (.aload_n 0, 1) := by decide +kernel
theorem dX11_init_162 : decode cX11_init 162 = .ok (.iconst 0, 1) := by decide +kernel
theorem dX11_init_163 : decode cX11_init 163 = .ok (.putfield 69, 3) := by decide +kernel
theorem dX11_init_166 : decode cX11_init 166 = .ok (.return_, 1) := by decide +kernel
theorem dX11_isIn_0 : decode cX11_isIn 0 = .ok (.iload_n 0, 1) := by decide +kernel
theorem dX11_isIn_1 : decode cX11_isIn 1 = .ok (.iload_n 1, 1) := by decide +kernel
theorem dX11_isIn_2 : decode cX11_isIn 2 = .ok (.if_icmp .lt 12, 3) := by decide +kernel
theorem dX11_isIn_5 : decode cX11_isIn 5 = .ok (.iload_n 0, 1) := by decide +kernel
theorem dX11_isIn_6 : decode cX11_isIn 6 = .ok (.iload_n 2, 1) := by decide +kernel
theorem dX11_isIn_7 : decode cX11_isIn 7 = .ok (.if_icmp .gt 7, 3) := by decide +kernel
theorem dX11_isIn_10 : decode cX11_isIn 10 = .ok (.iconst 1, 1) := by decide +kernel
theorem dX11_isIn_11 : decode cX11_isIn 11 = .ok (.goto 4, 3) := by decide +kernel
theorem dX11_isIn_14 : decode cX11_isIn 14 = .ok (.iconst 0, 1) := by decide +kernel
theorem dX11_isIn_15 : decode cX11_isIn 15 = .ok (.ireturn, 1) := by decide +kernel
theorem dX11_isCell_0 : decode cX11_isCell 0 = .ok (.iload_n 0, 1) := by decide +kernel
theorem dX11_isCell_1 : decode cX11_isCell 1 = .ok (.iconst 0, 1) := by decide +kernel
theorem dX11_isCell_2 : decode cX11_isCell 2 = .ok (.bipush 107, 2) := by decide +kernel
theorem dX11_isCell_4 : decode cX11_isCell 4 = .ok (.invokestatic 73, 3) := by decide +kernel
theorem dX11_isCell_7 : decode cX11_isCell 7 = .ok (.ireturn, 1) := by decide +kernel
theorem dX11_layerOf_0 : decode cX11_layerOf 0 = .ok (.iload_n 0, 1) := by decide +kernel
theorem dX11_layerOf_1 : decode cX11_layerOf 1 = .ok (.bipush 36, 2) := by decide +kernel
theorem dX11_layerOf_3 : decode cX11_layerOf 3 = .ok (.idiv, 1) := by decide +kernel
theorem dX11_layerOf_4 : decode cX11_layerOf 4 = .ok (.ireturn, 1) := by decide +kernel
theorem dX11_isObstacle_0 : decode cX11_isObstacle 0 = .ok (.aload_n 0, 1) := by decide +kernel
theorem dX11_isObstacle_1 : decode cX11_isObstacle 1 = .ok (.getfield 9, 3) := by decide +kernel
theorem dX11_isObstacle_4 : decode cX11_isObstacle 4 = .ok (.iconst 3, 1) := by decide +kernel
theorem dX11_isObstacle_5 : decode cX11_isObstacle 5 = .ok (.iload_n 1, 1) := by decide +kernel
theorem dX11_isObstacle_6 : decode cX11_isObstacle 6 = .ok (.iadd, 1) := by decide +kernel
theorem dX11_isObstacle_7 : decode cX11_isObstacle 7 = .ok (.iaload, 1) := by decide +kernel
theorem dX11_isObstacle_8 : decode cX11_isObstacle 8 = .ok (.iconst 1, 1) := by decide +kernel
theorem dX11_isObstacle_9 : decode cX11_isObstacle 9 = .ok (.if_icmp .ne 7, 3) := by decide +kernel
theorem dX11_isObstacle_12 : decode cX11_isObstacle 12 = .ok (.iconst 1, 1) := by decide +kernel
theorem dX11_isObstacle_13 : decode cX11_isObstacle 13 = .ok (.goto 4, 3) := by decide +kernel
theorem dX11_isObstacle_16 : decode cX11_isObstacle 16 = .ok (.iconst 0, 1) := by decide +kernel
theorem dX11_isObstacle_17 : decode cX11_isObstacle 17 = .ok (.ireturn, 1) := by decide +kernel
theorem dX11_isDrone_0 : decode cX11_isDrone 0 = .ok (.iload_n 1, 1) := by decide +kernel
theorem dX11_isDrone_1 : decode cX11_isDrone 1 = .ok (.iconst 0, 1) := by decide +kernel
theorem dX11_isDrone_2 : decode cX11_isDrone 2 = .ok (.aload_n 0, 1) := by decide +kernel
theorem dX11_isDrone_3 : decode cX11_isDrone 3 = .ok (.getfield 9, 3) := by decide +kernel
theorem dX11_isDrone_6 : decode cX11_isDrone 6 = .ok (.bipush 111, 2) := by decide +kernel
theorem dX11_isDrone_8 : decode cX11_isDrone 8 = .ok (.iaload, 1) := by decide +kernel
theorem dX11_isDrone_9 : decode cX11_isDrone 9 = .ok (.iconst 1, 1) := by decide +kernel
theorem dX11_isDrone_10 : decode cX11_isDrone 10 = .ok (.isub, 1) := by decide +kernel
theorem dX11_isDrone_11 : decode cX11_isDrone 11 = .ok (.invokestatic 73, 3) := by decide +kernel
theorem dX11_isDrone_14 : decode cX11_isDrone 14 = .ok (.ireturn, 1) := by decide +kernel
theorem dX11_droneAt_0 : decode cX11_droneAt 0 = .ok (.iconst 0, 1) := by decide +kernel
theorem dX11_droneAt_1 : decode cX11_droneAt 1 = .ok (.istore_n 2, 1) := by decide +kernel
theorem dX11_droneAt_2 : decode cX11_droneAt 2 = .ok (.iload_n 2, 1) := by decide +kernel
theorem dX11_droneAt_3 : decode cX11_droneAt 3 = .ok (.aload_n 0, 1) := by decide +kernel
theorem dX11_droneAt_4 : decode cX11_droneAt 4 = .ok (.getfield 9, 3) := by decide +kernel
theorem dX11_droneAt_7 : decode cX11_droneAt 7 = .ok (.bipush 111, 2) := by decide +kernel
theorem dX11_droneAt_9 : decode cX11_droneAt 9 = .ok (.iaload, 1) := by decide +kernel
theorem dX11_droneAt_10 : decode cX11_droneAt 10 = .ok (.if_icmp .ge 24, 3) := by decide +kernel
theorem dX11_droneAt_13 : decode cX11_droneAt 13 = .ok (.aload_n 0, 1) := by decide +kernel
theorem dX11_droneAt_14 : decode cX11_droneAt 14 = .ok (.getfield 9, 3) := by decide +kernel
theorem dX11_droneAt_17 : decode cX11_droneAt 17 = .ok (.bipush 112, 2) := by decide +kernel
theorem dX11_droneAt_19 : decode cX11_droneAt 19 = .ok (.iload_n 2, 1) := by decide +kernel
theorem dX11_droneAt_20 : decode cX11_droneAt 20 = .ok (.iadd, 1) := by decide +kernel
theorem dX11_droneAt_21 : decode cX11_droneAt 21 = .ok (.iaload, 1) := by decide +kernel
theorem dX11_droneAt_22 : decode cX11_droneAt 22 = .ok (.iload_n 1, 1) := by decide +kernel
theorem dX11_droneAt_23 : decode cX11_droneAt 23 = .ok (.if_icmp .ne 5, 3) := by decide +kernel
theorem dX11_droneAt_26 : decode cX11_droneAt 26 = .ok (.iload_n 2, 1) := by decide +kernel
theorem dX11_droneAt_27 : decode cX11_droneAt 27 = .ok (.ireturn, 1) := by decide +kernel
theorem dX11_droneAt_28 : decode cX11_droneAt 28 = .ok (.iinc 2 1, 3) := by decide +kernel
theorem dX11_droneAt_31 : decode cX11_droneAt 31 = .ok (.goto (-29), 3) := by decide +kernel
theorem dX11_droneAt_34 : decode cX11_droneAt 34 = .ok (.iconst (-1), 1) := by decide +kernel
theorem dX11_droneAt_35 : decode cX11_droneAt 35 = .ok (.ireturn, 1) := by decide +kernel
theorem dX11_slotAt_0 : decode cX11_slotAt 0 = .ok (.iconst 0, 1) := by decide +kernel
theorem dX11_slotAt_1 : decode cX11_slotAt 1 = .ok (.istore_n 2, 1) := by decide +kernel
theorem dX11_slotAt_2 : decode cX11_slotAt 2 = .ok (.iload_n 2, 1) := by decide +kernel
theorem dX11_slotAt_3 : decode cX11_slotAt 3 = .ok (.aload_n 0, 1) := by decide +kernel
theorem dX11_slotAt_4 : decode cX11_slotAt 4 = .ok (.getfield 9, 3) := by decide +kernel
theorem dX11_slotAt_7 : decode cX11_slotAt 7 = .ok (.bipush 118, 2) := by decide +kernel
theorem dX11_slotAt_9 : decode cX11_slotAt 9 = .ok (.iaload, 1) := by decide +kernel
theorem dX11_slotAt_10 : decode cX11_slotAt 10 = .ok (.if_icmp .ge 24, 3) := by decide +kernel
theorem dX11_slotAt_13 : decode cX11_slotAt 13 = .ok (.aload_n 0, 1) := by decide +kernel
theorem dX11_slotAt_14 : decode cX11_slotAt 14 = .ok (.getfield 9, 3) := by decide +kernel
theorem dX11_slotAt_17 : decode cX11_slotAt 17 = .ok (.bipush 119, 2) := by decide +kernel
theorem dX11_slotAt_19 : decode cX11_slotAt 19 = .ok (.iload_n 2, 1) := by decide +kernel
theorem dX11_slotAt_20 : decode cX11_slotAt 20 = .ok (.iadd, 1) := by decide +kernel
theorem dX11_slotAt_21 : decode cX11_slotAt 21 = .ok (.iaload, 1) := by decide +kernel
theorem dX11_slotAt_22 : decode cX11_slotAt 22 = .ok (.iload_n 1, 1) := by decide +kernel
theorem dX11_slotAt_23 : decode cX11_slotAt 23 = .ok (.if_icmp .ne 5, 3) := by decide +kernel
theorem dX11_slotAt_26 : decode cX11_slotAt 26 = .ok (.iload_n 2, 1) := by decide +kernel
theorem dX11_slotAt_27 : decode cX11_slotAt 27 = .ok (.ireturn, 1) := by decide +kernel
theorem dX11_slotAt_28 : decode cX11_slotAt 28 = .ok (.iinc 2 1, 3) := by decide +kernel
theorem dX11_slotAt_31 : decode cX11_slotAt 31 = .ok (.goto (-29), 3) := by decide +kernel
theorem dX11_slotAt_34 : decode cX11_slotAt 34 = .ok (.iconst (-1), 1) := by decide +kernel
theorem dX11_slotAt_35 : decode cX11_slotAt 35 = .ok (.ireturn, 1) := by decide +kernel
theorem dX11_keeps_0 : decode cX11_keeps 0 = .ok (.aload_n 0, 1) := by decide +kernel
theorem dX11_keeps_1 : decode cX11_keeps 1 = .ok (.getfield 77, 3) := by decide +kernel
theorem dX11_keeps_4 : decode cX11_keeps 4 = .ok (.bipush 8, 2) := by decide +kernel
theorem dX11_keeps_6 : decode cX11_keeps 6 = .ok (.if_icmp .ne 44, 3) := by decide +kernel
theorem dX11_keeps_9 : decode cX11_keeps 9 = .ok (.bipush 126, 2) := by decide +kernel
theorem dX11_keeps_11 : decode cX11_keeps 11 = .ok (.istore_n 1, 1) := by decide +kernel
theorem dX11_keeps_12 : decode cX11_keeps 12 = .ok (.iload_n 1, 1) := by decide +kernel
theorem dX11_keeps_13 : decode cX11_keeps 13 = .ok (.sipush 1008, 3) := by decide +kernel
theorem dX11_keeps_16 : decode cX11_keeps 16 = .ok (.if_icmp .ge 24, 3) := by decide +kernel
theorem dX11_keeps_19 : decode cX11_keeps 19 = .ok (.aload_n 0, 1) := by decide +kernel
theorem dX11_keeps_20 : decode cX11_keeps 20 = .ok (.getfield 13, 3) := by decide +kernel
theorem dX11_keeps_23 : decode cX11_keeps 23 = .ok (.iload_n 1, 1) := by decide +kernel
theorem dX11_keeps_24 : decode cX11_keeps 24 = .ok (.bipush 126, 2) := by decide +kernel
theorem dX11_keeps_26 : decode cX11_keeps 26 = .ok (.isub, 1) := by decide +kernel
theorem dX11_keeps_27 : decode cX11_keeps 27 = .ok (.aload_n 0, 1) := by decide +kernel
theorem dX11_keeps_28 : decode cX11_keeps 28 = .ok (.getfield 13, 3) := by decide +kernel
theorem dX11_keeps_31 : decode cX11_keeps 31 = .ok (.iload_n 1, 1) := by decide +kernel
theorem dX11_keeps_32 : decode cX11_keeps 32 = .ok (.iaload, 1) := by decide +kernel
theorem dX11_keeps_33 : decode cX11_keeps 33 = .ok (.iastore, 1) := by decide +kernel
theorem dX11_keeps_34 : decode cX11_keeps 34 = .ok (.iinc 1 1, 3) := by decide +kernel
theorem dX11_keeps_37 : decode cX11_keeps 37 = .ok (.goto (-25), 3) := by decide +kernel
theorem dX11_keeps_40 : decode cX11_keeps 40 = .ok (.aload_n 0, 1) := by decide +kernel
theorem dX11_keeps_41 : decode cX11_keeps 41 = .ok (.dup, 1) := by decide +kernel
theorem dX11_keeps_42 : decode cX11_keeps 42 = .ok (.getfield 77, 3) := by decide +kernel
theorem dX11_keeps_45 : decode cX11_keeps 45 = .ok (.iconst 1, 1) := by decide +kernel
theorem dX11_keeps_46 : decode cX11_keeps 46 = .ok (.isub, 1) := by decide +kernel
theorem dX11_keeps_47 : decode cX11_keeps 47 = .ok (.putfield 77, 3) := by decide +kernel
theorem dX11_keeps_50 : decode cX11_keeps 50 = .ok (.iconst 0, 1) := by decide +kernel
theorem dX11_keeps_51 : decode cX11_keeps 51 = .ok (.istore_n 1, 1) := by decide +kernel
theorem dX11_keeps_52 : decode cX11_keeps 52 = .ok (.iload_n 1, 1) := by decide +kernel
theorem dX11_keeps_53 : decode cX11_keeps 53 = .ok (.bipush 126, 2) := by decide +kernel
theorem dX11_keeps_55 : decode cX11_keeps 55 = .ok (.if_icmp .ge 29, 3) := by decide +kernel
theorem dX11_keeps_58 : decode cX11_keeps 58 = .ok (.aload_n 0, 1) := by decide +kernel
theorem dX11_keeps_59 : decode cX11_keeps 59 = .ok (.getfield 13, 3) := by decide +kernel
theorem dX11_keeps_62 : decode cX11_keeps 62 = .ok (.bipush 126, 2) := by decide +kernel
theorem dX11_keeps_64 : decode cX11_keeps 64 = .ok (.aload_n 0, 1) := by decide +kernel
theorem dX11_keeps_65 : decode cX11_keeps 65 = .ok (.getfield 77, 3) := by decide +kernel
theorem dX11_keeps_68 : decode cX11_keeps 68 = .ok (.imul, 1) := by decide +kernel
theorem dX11_keeps_69 : decode cX11_keeps 69 = .ok (.iload_n 1, 1) := by decide +kernel
theorem dX11_keeps_70 : decode cX11_keeps 70 = .ok (.iadd, 1) := by decide +kernel
theorem dX11_keeps_71 : decode cX11_keeps 71 = .ok (.aload_n 0, 1) := by decide +kernel
theorem dX11_keeps_72 : decode cX11_keeps 72 = .ok (.getfield 9, 3) := by decide +kernel
theorem dX11_keeps_75 : decode cX11_keeps 75 = .ok (.iload_n 1, 1) := by decide +kernel
theorem dX11_keeps_76 : decode cX11_keeps 76 = .ok (.iaload, 1) := by decide +kernel
theorem dX11_keeps_77 : decode cX11_keeps 77 = .ok (.iastore, 1) := by decide +kernel
theorem dX11_keeps_78 : decode cX11_keeps 78 = .ok (.iinc 1 1, 3) := by decide +kernel
theorem dX11_keeps_81 : decode cX11_keeps 81 = .ok (.goto (-29), 3) := by decide +kernel
theorem dX11_keeps_84 : decode cX11_keeps 84 = .ok (.aload_n 0, 1) := by decide +kernel
theorem dX11_keeps_85 : decode cX11_keeps 85 = .ok (.dup, 1) := by decide +kernel
theorem dX11_keeps_86 : decode cX11_keeps 86 = .ok (.getfield 77, 3) := by decide +kernel
theorem dX11_keeps_89 : decode cX11_keeps 89 = .ok (.iconst 1, 1) := by decide +kernel
theorem dX11_keeps_90 : decode cX11_keeps 90 = .ok (.iadd, 1) := by decide +kernel
theorem dX11_keeps_91 : decode cX11_keeps 91 = .ok (.putfield 77, 3) := by decide +kernel
theorem dX11_keeps_94 : decode cX11_keeps 94 = .ok (.return_, 1) := by decide +kernel
theorem dX11_discards_0 : decode cX11_discards 0 = .ok (.aload_n 0, 1) := by decide +kernel
theorem dX11_discards_1 : decode cX11_discards 1 = .ok (.iconst 0, 1) := by decide +kernel
theorem dX11_discards_2 : decode cX11_discards 2 = .ok (.putfield 69, 3) := by decide +kernel
theorem dX11_discards_5 : decode cX11_discards 5 = .ok (.aload_n 0, 1) := by decide +kernel
theorem dX11_discards_6 : decode cX11_discards 6 = .ok (.iconst (-1), 1) := by decide +kernel
theorem dX11_discards_7 : decode cX11_discards 7 = .ok (.putfield 35, 3) := by decide +kernel
theorem dX11_discards_10 : decode cX11_discards 10 = .ok (.iconst 0, 1) := by decide +kernel
theorem dX11_discards_11 : decode cX11_discards 11 = .ok (.istore_n 1, 1) := by decide +kernel
theorem dX11_discards_12 : decode cX11_discards 12 = .ok (.iload_n 1, 1) := by decide +kernel
theorem dX11_discards_13 : decode cX11_discards 13 = .ok (.bipush 108, 2) := by decide +kernel
theorem dX11_discards_15 : decode cX11_discards 15 = .ok (.if_icmp .ge 16, 3) := by decide +kernel
theorem dX11_discards_18 : decode cX11_discards 18 = .ok (.aload_n 0, 1) := by decide +kernel
theorem dX11_discards_19 : decode cX11_discards 19 = .ok (.getfield 25, 3) := by decide +kernel
theorem dX11_discards_22 : decode cX11_discards 22 = .ok (.iload_n 1, 1) := by decide +kernel
theorem dX11_discards_23 : decode cX11_discards 23 = .ok (.iconst 0, 1) := by decide +kernel
theorem dX11_discards_24 : decode cX11_discards 24 = .ok (.bastore, 1) := by decide +kernel
theorem dX11_discards_25 : decode cX11_discards 25 = .ok (.iinc 1 1, 3) := by decide +kernel
theorem dX11_discards_28 : decode cX11_discards 28 = .ok (.goto (-16), 3) := by decide +kernel
theorem dX11_discards_31 : decode cX11_discards 31 = .ok (.return_, 1) := by decide +kernel
theorem dX11_changes_0 : decode cX11_changes 0 = .ok (.aload_n 0, 1) := by decide +kernel
theorem dX11_changes_1 : decode cX11_changes 1 = .ok (.invokevirtual 80, 3) := by decide +kernel
theorem dX11_changes_4 : decode cX11_changes 4 = .ok (.aload_n 0, 1) := by decide +kernel
theorem dX11_changes_5 : decode cX11_changes 5 = .ok (.invokevirtual 83, 3) := by decide +kernel
theorem dX11_changes_8 : decode cX11_changes 8 = .ok (.return_, 1) := by decide +kernel
theorem dX11_undo_0 : decode cX11_undo 0 = .ok (.aload_n 0, 1) := by decide +kernel
theorem dX11_undo_1 : decode cX11_undo 1 = .ok (.getfield 77, 3) := by decide +kernel
theorem dX11_undo_4 : decode cX11_undo 4 = .ok (.ifCond .ne 5, 3) := by decide +kernel
theorem dX11_undo_7 : decode cX11_undo 7 = .ok (.iconst (-1), 1) := by decide +kernel
theorem dX11_undo_8 : decode cX11_undo 8 = .ok (.ireturn, 1) := by decide +kernel
theorem dX11_undo_9 : decode cX11_undo 9 = .ok (.aload_n 0, 1) := by decide +kernel
theorem dX11_undo_10 : decode cX11_undo 10 = .ok (.dup, 1) := by decide +kernel
theorem dX11_undo_11 : decode cX11_undo 11 = .ok (.getfield 77, 3) := by decide +kernel
theorem dX11_undo_14 : decode cX11_undo 14 = .ok (.iconst 1, 1) := by decide +kernel
theorem dX11_undo_15 : decode cX11_undo 15 = .ok (.isub, 1) := by decide +kernel
theorem dX11_undo_16 : decode cX11_undo 16 = .ok (.putfield 77, 3) := by decide +kernel
theorem dX11_undo_19 : decode cX11_undo 19 = .ok (.iconst 0, 1) := by decide +kernel
theorem dX11_undo_20 : decode cX11_undo 20 = .ok (.istore_n 1, 1) := by decide +kernel
theorem dX11_undo_21 : decode cX11_undo 21 = .ok (.iload_n 1, 1) := by decide +kernel
theorem dX11_undo_22 : decode cX11_undo 22 = .ok (.bipush 126, 2) := by decide +kernel
theorem dX11_undo_24 : decode cX11_undo 24 = .ok (.if_icmp .ge 29, 3) := by decide +kernel
theorem dX11_undo_27 : decode cX11_undo 27 = .ok (.aload_n 0, 1) := by decide +kernel
theorem dX11_undo_28 : decode cX11_undo 28 = .ok (.getfield 9, 3) := by decide +kernel
theorem dX11_undo_31 : decode cX11_undo 31 = .ok (.iload_n 1, 1) := by decide +kernel
theorem dX11_undo_32 : decode cX11_undo 32 = .ok (.aload_n 0, 1) := by decide +kernel
theorem dX11_undo_33 : decode cX11_undo 33 = .ok (.getfield 13, 3) := by decide +kernel
theorem dX11_undo_36 : decode cX11_undo 36 = .ok (.bipush 126, 2) := by decide +kernel
theorem dX11_undo_38 : decode cX11_undo 38 = .ok (.aload_n 0, 1) := by decide +kernel
theorem dX11_undo_39 : decode cX11_undo 39 = .ok (.getfield 77, 3) := by decide +kernel
theorem dX11_undo_42 : decode cX11_undo 42 = .ok (.imul, 1) := by decide +kernel
theorem dX11_undo_43 : decode cX11_undo 43 = .ok (.iload_n 1, 1) := by decide +kernel
theorem dX11_undo_44 : decode cX11_undo 44 = .ok (.iadd, 1) := by decide +kernel
theorem dX11_undo_45 : decode cX11_undo 45 = .ok (.iaload, 1) := by decide +kernel
theorem dX11_undo_46 : decode cX11_undo 46 = .ok (.iastore, 1) := by decide +kernel
theorem dX11_undo_47 : decode cX11_undo 47 = .ok (.iinc 1 1, 3) := by decide +kernel
theorem dX11_undo_50 : decode cX11_undo 50 = .ok (.goto (-29), 3) := by decide +kernel
theorem dX11_undo_53 : decode cX11_undo 53 = .ok (.aload_n 0, 1) := by decide +kernel
theorem dX11_undo_54 : decode cX11_undo 54 = .ok (.invokevirtual 83, 3) := by decide +kernel
theorem dX11_undo_57 : decode cX11_undo 57 = .ok (.aload_n 0, 1) := by decide +kernel
theorem dX11_undo_58 : decode cX11_undo 58 = .ok (.getfield 77, 3) := by decide +kernel
theorem dX11_undo_61 : decode cX11_undo 61 = .ok (.ireturn, 1) := by decide +kernel
theorem dX11_setWind_0 : decode cX11_setWind 0 = .ok (.iload_n 1, 1) := by decide +kernel
theorem dX11_setWind_1 : decode cX11_setWind 1 = .ok (.iconst 0, 1) := by decide +kernel
theorem dX11_setWind_2 : decode cX11_setWind 2 = .ok (.iconst 2, 1) := by decide +kernel
theorem dX11_setWind_3 : decode cX11_setWind 3 = .ok (.invokestatic 73, 3) := by decide +kernel
theorem dX11_setWind_6 : decode cX11_setWind 6 = .ok (.ifCond .eq 12, 3) := by decide +kernel
theorem dX11_setWind_9 : decode cX11_setWind 9 = .ok (.iload_n 2, 1) := by decide +kernel
theorem dX11_setWind_10 : decode cX11_setWind 10 = .ok (.iconst 0, 1) := by decide +kernel
theorem dX11_setWind_11 : decode cX11_setWind 11 = .ok (.iconst 4, 1) := by decide +kernel
theorem dX11_setWind_12 : decode cX11_setWind 12 = .ok (.invokestatic 73, 3) := by decide +kernel
theorem dX11_setWind_15 : decode cX11_setWind 15 = .ok (.ifCond .ne 6, 3) := by decide +kernel
theorem dX11_setWind_18 : decode cX11_setWind 18 = .ok (.bipush (-2), 2) := by decide +kernel
theorem dX11_setWind_20 : decode cX11_setWind 20 = .ok (.ireturn, 1) := by decide +kernel
theorem dX11_setWind_21 : decode cX11_setWind 21 = .ok (.aload_n 0, 1) := by decide +kernel
theorem dX11_setWind_22 : decode cX11_setWind 22 = .ok (.invokevirtual 86, 3) := by decide +kernel
theorem dX11_setWind_25 : decode cX11_setWind 25 = .ok (.aload_n 0, 1) := by decide +kernel
theorem dX11_setWind_26 : decode cX11_setWind 26 = .ok (.getfield 9, 3) := by decide +kernel
theorem dX11_setWind_29 : decode cX11_setWind 29 = .ok (.iconst 0, 1) := by decide +kernel
theorem dX11_setWind_30 : decode cX11_setWind 30 = .ok (.iload_n 1, 1) := by decide +kernel
theorem dX11_setWind_31 : decode cX11_setWind 31 = .ok (.iadd, 1) := by decide +kernel
theorem dX11_setWind_32 : decode cX11_setWind 32 = .ok (.iaload, 1) := by decide +kernel
theorem dX11_setWind_33 : decode cX11_setWind 33 = .ok (.istore_n 3, 1) := by decide +kernel
theorem dX11_setWind_34 : decode cX11_setWind 34 = .ok (.aload_n 0, 1) := by decide +kernel
theorem dX11_setWind_35 : decode cX11_setWind 35 = .ok (.getfield 9, 3) := by decide +kernel
theorem dX11_setWind_38 : decode cX11_setWind 38 = .ok (.iconst 0, 1) := by decide +kernel
theorem dX11_setWind_39 : decode cX11_setWind 39 = .ok (.iload_n 1, 1) := by decide +kernel
theorem dX11_setWind_40 : decode cX11_setWind 40 = .ok (.iadd, 1) := by decide +kernel
theorem dX11_setWind_41 : decode cX11_setWind 41 = .ok (.iload_n 2, 1) := by decide +kernel
theorem dX11_setWind_42 : decode cX11_setWind 42 = .ok (.iastore, 1) := by decide +kernel
theorem dX11_setWind_43 : decode cX11_setWind 43 = .ok (.iload_n 3, 1) := by decide +kernel
theorem dX11_setWind_44 : decode cX11_setWind 44 = .ok (.ireturn, 1) := by decide +kernel
theorem dX11_setObstacle_0 : decode cX11_setObstacle 0 = .ok (.iload_n 1, 1) := by decide +kernel
theorem dX11_setObstacle_1 : decode cX11_setObstacle 1 = .ok (.invokestatic 88, 3) := by decide +kernel
theorem dX11_setObstacle_4 : decode cX11_setObstacle 4 = .ok (.ifCond .eq 12, 3) := by decide +kernel
theorem dX11_setObstacle_7 : decode cX11_setObstacle 7 = .ok (.iload_n 2, 1) := by decide +kernel
theorem dX11_setObstacle_8 : decode cX11_setObstacle 8 = .ok (.iconst 0, 1) := by decide +kernel
theorem dX11_setObstacle_9 : decode cX11_setObstacle 9 = .ok (.iconst 1, 1) := by decide +kernel
theorem dX11_setObstacle_10 : decode cX11_setObstacle 10 = .ok (.invokestatic 73, 3) := by decide +kernel
theorem dX11_setObstacle_13 : decode cX11_setObstacle 13 = .ok (.ifCond .ne 6, 3) := by decide +kernel
theorem dX11_setObstacle_16 : decode cX11_setObstacle 16 = .ok (.bipush (-2), 2) := by decide +kernel
theorem dX11_setObstacle_18 : decode cX11_setObstacle 18 = .ok (.ireturn, 1) := by decide +kernel
theorem dX11_setObstacle_19 : decode cX11_setObstacle 19 = .ok (.iload_n 2, 1) := by decide +kernel
theorem dX11_setObstacle_20 : decode cX11_setObstacle 20 = .ok (.iconst 1, 1) := by decide +kernel
theorem dX11_setObstacle_21 : decode cX11_setObstacle 21 = .ok (.if_icmp .ne 22, 3) := by decide +kernel
theorem dX11_setObstacle_24 : decode cX11_setObstacle 24 = .ok (.aload_n 0, 1) := by decide +kernel
theorem dX11_setObstacle_25 : decode cX11_setObstacle 25 = .ok (.iload_n 1, 1) := by decide +kernel
theorem dX11_setObstacle_26 : decode cX11_setObstacle 26 = .ok (.invokevirtual 92, 3) := by decide +kernel
theorem dX11_setObstacle_29 : decode cX11_setObstacle 29 = .ok (.ifCond .ge 11, 3) := by decide +kernel
theorem dX11_setObstacle_32 : decode cX11_setObstacle 32 = .ok (.aload_n 0, 1) := by decide +kernel
theorem dX11_setObstacle_33 : decode cX11_setObstacle 33 = .ok (.iload_n 1, 1) := by decide +kernel
theorem dX11_setObstacle_34 : decode cX11_setObstacle 34 = .ok (.invokevirtual 96, 3) := by decide +kernel
theorem dX11_setObstacle_37 : decode cX11_setObstacle 37 = .ok (.ifCond .lt 6, 3) := by decide +kernel
theorem dX11_setObstacle_40 : decode cX11_setObstacle 40 = .ok (.bipush (-4), 2) := by decide +kernel
theorem dX11_setObstacle_42 : decode cX11_setObstacle 42 = .ok (.ireturn, 1) := by decide +kernel
theorem dX11_setObstacle_43 : decode cX11_setObstacle 43 = .ok (.aload_n 0, 1) := by decide +kernel
theorem dX11_setObstacle_44 : decode cX11_setObstacle 44 = .ok (.invokevirtual 86, 3) := by decide +kernel
theorem dX11_setObstacle_47 : decode cX11_setObstacle 47 = .ok (.aload_n 0, 1) := by decide +kernel
theorem dX11_setObstacle_48 : decode cX11_setObstacle 48 = .ok (.getfield 9, 3) := by decide +kernel
theorem dX11_setObstacle_51 : decode cX11_setObstacle 51 = .ok (.iconst 3, 1) := by decide +kernel
theorem dX11_setObstacle_52 : decode cX11_setObstacle 52 = .ok (.iload_n 1, 1) := by decide +kernel
theorem dX11_setObstacle_53 : decode cX11_setObstacle 53 = .ok (.iadd, 1) := by decide +kernel
theorem dX11_setObstacle_54 : decode cX11_setObstacle 54 = .ok (.iaload, 1) := by decide +kernel
theorem dX11_setObstacle_55 : decode cX11_setObstacle 55 = .ok (.istore_n 3, 1) := by decide +kernel
theorem dX11_setObstacle_56 : decode cX11_setObstacle 56 = .ok (.aload_n 0, 1) := by decide +kernel
theorem dX11_setObstacle_57 : decode cX11_setObstacle 57 = .ok (.getfield 9, 3) := by decide +kernel
theorem dX11_setObstacle_60 : decode cX11_setObstacle 60 = .ok (.iconst 3, 1) := by decide +kernel
theorem dX11_setObstacle_61 : decode cX11_setObstacle 61 = .ok (.iload_n 1, 1) := by decide +kernel
theorem dX11_setObstacle_62 : decode cX11_setObstacle 62 = .ok (.iadd, 1) := by decide +kernel
theorem dX11_setObstacle_63 : decode cX11_setObstacle 63 = .ok (.iload_n 2, 1) := by decide +kernel
theorem dX11_setObstacle_64 : decode cX11_setObstacle 64 = .ok (.iastore, 1) := by decide +kernel
theorem dX11_setObstacle_65 : decode cX11_setObstacle 65 = .ok (.iload_n 3, 1) := by decide +kernel
theorem dX11_setObstacle_66 : decode cX11_setObstacle 66 = .ok (.ireturn, 1) := by decide +kernel
theorem dX11_addDrone_0 : decode cX11_addDrone 0 = .ok (.iload_n 1, 1) := by decide +kernel
theorem dX11_addDrone_1 : decode cX11_addDrone 1 = .ok (.invokestatic 88, 3) := by decide +kernel
theorem dX11_addDrone_4 : decode cX11_addDrone 4 = .ok (.ifCond .ne 6, 3) := by decide +kernel
theorem dX11_addDrone_7 : decode cX11_addDrone 7 = .ok (.bipush (-2), 2) := by decide +kernel
theorem dX11_addDrone_9 : decode cX11_addDrone 9 = .ok (.ireturn, 1) := by decide +kernel
theorem dX11_addDrone_10 : decode cX11_addDrone 10 = .ok (.aload_n 0, 1) := by decide +kernel
theorem dX11_addDrone_11 : decode cX11_addDrone 11 = .ok (.getfield 9, 3) := by decide +kernel
theorem dX11_addDrone_14 : decode cX11_addDrone 14 = .ok (.bipush 111, 2) := by decide +kernel
theorem dX11_addDrone_16 : decode cX11_addDrone 16 = .ok (.iaload, 1) := by decide +kernel
theorem dX11_addDrone_17 : decode cX11_addDrone 17 = .ok (.bipush 6, 2) := by decide +kernel
theorem dX11_addDrone_19 : decode cX11_addDrone 19 = .ok (.if_icmp .ne 6, 3) := by decide +kernel
theorem dX11_addDrone_22 : decode cX11_addDrone 22 = .ok (.bipush (-3), 2) := by decide +kernel
theorem dX11_addDrone_24 : decode cX11_addDrone 24 = .ok (.ireturn, 1) := by decide +kernel
theorem dX11_addDrone_25 : decode cX11_addDrone 25 = .ok (.aload_n 0, 1) := by decide +kernel
theorem dX11_addDrone_26 : decode cX11_addDrone 26 = .ok (.iload_n 1, 1) := by decide +kernel
theorem dX11_addDrone_27 : decode cX11_addDrone 27 = .ok (.invokevirtual 99, 3) := by decide +kernel
theorem dX11_addDrone_30 : decode cX11_addDrone 30 = .ok (.ifCond .ne 11, 3) := by decide +kernel
theorem dX11_addDrone_33 : decode cX11_addDrone 33 = .ok (.aload_n 0, 1) := by decide +kernel
theorem dX11_addDrone_34 : decode cX11_addDrone 34 = .ok (.iload_n 1, 1) := by decide +kernel
theorem dX11_addDrone_35 : decode cX11_addDrone 35 = .ok (.invokevirtual 92, 3) := by decide +kernel
theorem dX11_addDrone_38 : decode cX11_addDrone 38 = .ok (.ifCond .lt 6, 3) := by decide +kernel
theorem dX11_addDrone_41 : decode cX11_addDrone 41 = .ok (.bipush (-4), 2) := by decide +kernel
theorem dX11_addDrone_43 : decode cX11_addDrone 43 = .ok (.ireturn, 1) := by decide +kernel
theorem dX11_addDrone_44 : decode cX11_addDrone 44 = .ok (.aload_n 0, 1) := by decide +kernel
theorem dX11_addDrone_45 : decode cX11_addDrone 45 = .ok (.invokevirtual 86, 3) := by decide +kernel
theorem dX11_addDrone_48 : decode cX11_addDrone 48 = .ok (.aload_n 0, 1) := by decide +kernel
theorem dX11_addDrone_49 : decode cX11_addDrone 49 = .ok (.getfield 9, 3) := by decide +kernel
theorem dX11_addDrone_52 : decode cX11_addDrone 52 = .ok (.bipush 112, 2) := by decide +kernel
theorem dX11_addDrone_54 : decode cX11_addDrone 54 = .ok (.aload_n 0, 1) := by decide +kernel
theorem dX11_addDrone_55 : decode cX11_addDrone 55 = .ok (.getfield 9, 3) := by decide +kernel
theorem dX11_addDrone_58 : decode cX11_addDrone 58 = .ok (.bipush 111, 2) := by decide +kernel
theorem dX11_addDrone_60 : decode cX11_addDrone 60 = .ok (.iaload, 1) := by decide +kernel
theorem dX11_addDrone_61 : decode cX11_addDrone 61 = .ok (.iadd, 1) := by decide +kernel
theorem dX11_addDrone_62 : decode cX11_addDrone 62 = .ok (.iload_n 1, 1) := by decide +kernel
theorem dX11_addDrone_63 : decode cX11_addDrone 63 = .ok (.iastore, 1) := by decide +kernel
theorem dX11_addDrone_64 : decode cX11_addDrone 64 = .ok (.aload_n 0, 1) := by decide +kernel
theorem dX11_addDrone_65 : decode cX11_addDrone 65 = .ok (.getfield 9, 3) := by decide +kernel
theorem dX11_addDrone_68 : decode cX11_addDrone 68 = .ok (.bipush 111, 2) := by decide +kernel
theorem dX11_addDrone_70 : decode cX11_addDrone 70 = .ok (.dup2, 1) := by decide +kernel
theorem dX11_addDrone_71 : decode cX11_addDrone 71 = .ok (.iaload, 1) := by decide +kernel
theorem dX11_addDrone_72 : decode cX11_addDrone 72 = .ok (.iconst 1, 1) := by decide +kernel
theorem dX11_addDrone_73 : decode cX11_addDrone 73 = .ok (.iadd, 1) := by decide +kernel
theorem dX11_addDrone_74 : decode cX11_addDrone 74 = .ok (.iastore, 1) := by decide +kernel
theorem dX11_addDrone_75 : decode cX11_addDrone 75 = .ok (.aload_n 0, 1) := by decide +kernel
theorem dX11_addDrone_76 : decode cX11_addDrone 76 = .ok (.getfield 9, 3) := by decide +kernel
theorem dX11_addDrone_79 : decode cX11_addDrone 79 = .ok (.bipush 111, 2) := by decide +kernel
theorem dX11_addDrone_81 : decode cX11_addDrone 81 = .ok (.iaload, 1) := by decide +kernel
theorem dX11_addDrone_82 : decode cX11_addDrone 82 = .ok (.iconst 1, 1) := by decide +kernel
theorem dX11_addDrone_83 : decode cX11_addDrone 83 = .ok (.isub, 1) := by decide +kernel
theorem dX11_addDrone_84 : decode cX11_addDrone 84 = .ok (.ireturn, 1) := by decide +kernel
theorem dX11_removeDrone_0 : decode cX11_removeDrone 0 = .ok (.aload_n 0, 1) := by decide +kernel
theorem dX11_removeDrone_1 : decode cX11_removeDrone 1 = .ok (.iload_n 1, 1) := by decide +kernel
theorem dX11_removeDrone_2 : decode cX11_removeDrone 2 = .ok (.invokevirtual 102, 3) := by decide +kernel
theorem dX11_removeDrone_5 : decode cX11_removeDrone 5 = .ok (.ifCond .ne 5, 3) := by decide +kernel
theorem dX11_removeDrone_8 : decode cX11_removeDrone 8 = .ok (.iconst (-1), 1) := by decide +kernel
theorem dX11_removeDrone_9 : decode cX11_removeDrone 9 = .ok (.ireturn, 1) := by decide +kernel
theorem dX11_removeDrone_10 : decode cX11_removeDrone 10 = .ok (.aload_n 0, 1) := by decide +kernel
theorem dX11_removeDrone_11 : decode cX11_removeDrone 11 = .ok (.invokevirtual 86, 3) := by decide +kernel
theorem dX11_removeDrone_14 : decode cX11_removeDrone 14 = .ok (.aload_n 0, 1) := by decide +kernel
theorem dX11_removeDrone_15 : decode cX11_removeDrone 15 = .ok (.getfield 9, 3) := by decide +kernel
theorem dX11_removeDrone_18 : decode cX11_removeDrone 18 = .ok (.bipush 111, 2) := by decide +kernel
theorem dX11_removeDrone_20 : decode cX11_removeDrone 20 = .ok (.dup2, 1) := by decide +kernel
theorem dX11_removeDrone_21 : decode cX11_removeDrone 21 = .ok (.iaload, 1) := by decide +kernel
theorem dX11_removeDrone_22 : decode cX11_removeDrone 22 = .ok (.iconst 1, 1) := by decide +kernel
theorem dX11_removeDrone_23 : decode cX11_removeDrone 23 = .ok (.isub, 1) := by decide +kernel
theorem dX11_removeDrone_24 : decode cX11_removeDrone 24 = .ok (.iastore, 1) := by decide +kernel
theorem dX11_removeDrone_25 : decode cX11_removeDrone 25 = .ok (.iload_n 1, 1) := by decide +kernel
theorem dX11_removeDrone_26 : decode cX11_removeDrone 26 = .ok (.istore_n 2, 1) := by decide +kernel
theorem dX11_removeDrone_27 : decode cX11_removeDrone 27 = .ok (.iload_n 2, 1) := by decide +kernel
theorem dX11_removeDrone_28 : decode cX11_removeDrone 28 = .ok (.aload_n 0, 1) := by decide +kernel
theorem dX11_removeDrone_29 : decode cX11_removeDrone 29 = .ok (.getfield 9, 3) := by decide +kernel
theorem dX11_removeDrone_32 : decode cX11_removeDrone 32 = .ok (.bipush 111, 2) := by decide +kernel
theorem dX11_removeDrone_34 : decode cX11_removeDrone 34 = .ok (.iaload, 1) := by decide +kernel
theorem dX11_removeDrone_35 : decode cX11_removeDrone 35 = .ok (.if_icmp .ge 29, 3) := by decide +kernel
theorem dX11_removeDrone_38 : decode cX11_removeDrone 38 = .ok (.aload_n 0, 1) := by decide +kernel
theorem dX11_removeDrone_39 : decode cX11_removeDrone 39 = .ok (.getfield 9, 3) := by decide +kernel
theorem dX11_removeDrone_42 : decode cX11_removeDrone 42 = .ok (.bipush 112, 2) := by decide +kernel
theorem dX11_removeDrone_44 : decode cX11_removeDrone 44 = .ok (.iload_n 2, 1) := by decide +kernel
theorem dX11_removeDrone_45 : decode cX11_removeDrone 45 = .ok (.iadd, 1) := by decide +kernel
theorem dX11_removeDrone_46 : decode cX11_removeDrone 46 = .ok (.aload_n 0, 1) := by decide +kernel
theorem dX11_removeDrone_47 : decode cX11_removeDrone 47 = .ok (.getfield 9, 3) := by decide +kernel
theorem dX11_removeDrone_50 : decode cX11_removeDrone 50 = .ok (.bipush 112, 2) := by decide +kernel
theorem dX11_removeDrone_52 : decode cX11_removeDrone 52 = .ok (.iload_n 2, 1) := by decide +kernel
theorem dX11_removeDrone_53 : decode cX11_removeDrone 53 = .ok (.iadd, 1) := by decide +kernel
theorem dX11_removeDrone_54 : decode cX11_removeDrone 54 = .ok (.iconst 1, 1) := by decide +kernel
theorem dX11_removeDrone_55 : decode cX11_removeDrone 55 = .ok (.iadd, 1) := by decide +kernel
theorem dX11_removeDrone_56 : decode cX11_removeDrone 56 = .ok (.iaload, 1) := by decide +kernel
theorem dX11_removeDrone_57 : decode cX11_removeDrone 57 = .ok (.iastore, 1) := by decide +kernel
theorem dX11_removeDrone_58 : decode cX11_removeDrone 58 = .ok (.iinc 2 1, 3) := by decide +kernel
theorem dX11_removeDrone_61 : decode cX11_removeDrone 61 = .ok (.goto (-34), 3) := by decide +kernel
theorem dX11_removeDrone_64 : decode cX11_removeDrone 64 = .ok (.aload_n 0, 1) := by decide +kernel
theorem dX11_removeDrone_65 : decode cX11_removeDrone 65 = .ok (.getfield 9, 3) := by decide +kernel
theorem dX11_removeDrone_68 : decode cX11_removeDrone 68 = .ok (.bipush 111, 2) := by decide +kernel
theorem dX11_removeDrone_70 : decode cX11_removeDrone 70 = .ok (.iaload, 1) := by decide +kernel
theorem dX11_removeDrone_71 : decode cX11_removeDrone 71 = .ok (.ireturn, 1) := by decide +kernel
theorem dX11_addSlot_0 : decode cX11_addSlot 0 = .ok (.iload_n 1, 1) := by decide +kernel
theorem dX11_addSlot_1 : decode cX11_addSlot 1 = .ok (.invokestatic 88, 3) := by decide +kernel
theorem dX11_addSlot_4 : decode cX11_addSlot 4 = .ok (.ifCond .ne 6, 3) := by decide +kernel
theorem dX11_addSlot_7 : decode cX11_addSlot 7 = .ok (.bipush (-2), 2) := by decide +kernel
theorem dX11_addSlot_9 : decode cX11_addSlot 9 = .ok (.ireturn, 1) := by decide +kernel
theorem dX11_addSlot_10 : decode cX11_addSlot 10 = .ok (.aload_n 0, 1) := by decide +kernel
theorem dX11_addSlot_11 : decode cX11_addSlot 11 = .ok (.getfield 9, 3) := by decide +kernel
theorem dX11_addSlot_14 : decode cX11_addSlot 14 = .ok (.bipush 118, 2) := by decide +kernel
theorem dX11_addSlot_16 : decode cX11_addSlot 16 = .ok (.iaload, 1) := by decide +kernel
theorem dX11_addSlot_17 : decode cX11_addSlot 17 = .ok (.bipush 6, 2) := by decide +kernel
theorem dX11_addSlot_19 : decode cX11_addSlot 19 = .ok (.if_icmp .ne 6, 3) := by decide +kernel
theorem dX11_addSlot_22 : decode cX11_addSlot 22 = .ok (.bipush (-3), 2) := by decide +kernel
theorem dX11_addSlot_24 : decode cX11_addSlot 24 = .ok (.ireturn, 1) := by decide +kernel
theorem dX11_addSlot_25 : decode cX11_addSlot 25 = .ok (.aload_n 0, 1) := by decide +kernel
theorem dX11_addSlot_26 : decode cX11_addSlot 26 = .ok (.iload_n 1, 1) := by decide +kernel
theorem dX11_addSlot_27 : decode cX11_addSlot 27 = .ok (.invokevirtual 99, 3) := by decide +kernel
theorem dX11_addSlot_30 : decode cX11_addSlot 30 = .ok (.ifCond .ne 11, 3) := by decide +kernel
theorem dX11_addSlot_33 : decode cX11_addSlot 33 = .ok (.aload_n 0, 1) := by decide +kernel
theorem dX11_addSlot_34 : decode cX11_addSlot 34 = .ok (.iload_n 1, 1) := by decide +kernel
theorem dX11_addSlot_35 : decode cX11_addSlot 35 = .ok (.invokevirtual 96, 3) := by decide +kernel
theorem dX11_addSlot_38 : decode cX11_addSlot 38 = .ok (.ifCond .lt 6, 3) := by decide +kernel
theorem dX11_addSlot_41 : decode cX11_addSlot 41 = .ok (.bipush (-4), 2) := by decide +kernel
theorem dX11_addSlot_43 : decode cX11_addSlot 43 = .ok (.ireturn, 1) := by decide +kernel
theorem dX11_addSlot_44 : decode cX11_addSlot 44 = .ok (.aload_n 0, 1) := by decide +kernel
theorem dX11_addSlot_45 : decode cX11_addSlot 45 = .ok (.invokevirtual 86, 3) := by decide +kernel
theorem dX11_addSlot_48 : decode cX11_addSlot 48 = .ok (.aload_n 0, 1) := by decide +kernel
theorem dX11_addSlot_49 : decode cX11_addSlot 49 = .ok (.getfield 9, 3) := by decide +kernel
theorem dX11_addSlot_52 : decode cX11_addSlot 52 = .ok (.bipush 119, 2) := by decide +kernel
theorem dX11_addSlot_54 : decode cX11_addSlot 54 = .ok (.aload_n 0, 1) := by decide +kernel
theorem dX11_addSlot_55 : decode cX11_addSlot 55 = .ok (.getfield 9, 3) := by decide +kernel
theorem dX11_addSlot_58 : decode cX11_addSlot 58 = .ok (.bipush 118, 2) := by decide +kernel
theorem dX11_addSlot_60 : decode cX11_addSlot 60 = .ok (.iaload, 1) := by decide +kernel
theorem dX11_addSlot_61 : decode cX11_addSlot 61 = .ok (.iadd, 1) := by decide +kernel
theorem dX11_addSlot_62 : decode cX11_addSlot 62 = .ok (.iload_n 1, 1) := by decide +kernel
theorem dX11_addSlot_63 : decode cX11_addSlot 63 = .ok (.iastore, 1) := by decide +kernel
theorem dX11_addSlot_64 : decode cX11_addSlot 64 = .ok (.aload_n 0, 1) := by decide +kernel
theorem dX11_addSlot_65 : decode cX11_addSlot 65 = .ok (.getfield 9, 3) := by decide +kernel
theorem dX11_addSlot_68 : decode cX11_addSlot 68 = .ok (.bipush 118, 2) := by decide +kernel
theorem dX11_addSlot_70 : decode cX11_addSlot 70 = .ok (.dup2, 1) := by decide +kernel
theorem dX11_addSlot_71 : decode cX11_addSlot 71 = .ok (.iaload, 1) := by decide +kernel
theorem dX11_addSlot_72 : decode cX11_addSlot 72 = .ok (.iconst 1, 1) := by decide +kernel
theorem dX11_addSlot_73 : decode cX11_addSlot 73 = .ok (.iadd, 1) := by decide +kernel
theorem dX11_addSlot_74 : decode cX11_addSlot 74 = .ok (.iastore, 1) := by decide +kernel
theorem dX11_addSlot_75 : decode cX11_addSlot 75 = .ok (.aload_n 0, 1) := by decide +kernel
theorem dX11_addSlot_76 : decode cX11_addSlot 76 = .ok (.getfield 9, 3) := by decide +kernel
theorem dX11_addSlot_79 : decode cX11_addSlot 79 = .ok (.bipush 118, 2) := by decide +kernel
theorem dX11_addSlot_81 : decode cX11_addSlot 81 = .ok (.iaload, 1) := by decide +kernel
theorem dX11_addSlot_82 : decode cX11_addSlot 82 = .ok (.iconst 1, 1) := by decide +kernel
theorem dX11_addSlot_83 : decode cX11_addSlot 83 = .ok (.isub, 1) := by decide +kernel
theorem dX11_addSlot_84 : decode cX11_addSlot 84 = .ok (.ireturn, 1) := by decide +kernel
theorem dX11_clearSlots_0 : decode cX11_clearSlots 0 = .ok (.aload_n 0, 1) := by decide +kernel
theorem dX11_clearSlots_1 : decode cX11_clearSlots 1 = .ok (.invokevirtual 86, 3) := by decide +kernel
theorem dX11_clearSlots_4 : decode cX11_clearSlots 4 = .ok (.aload_n 0, 1) := by decide +kernel
theorem dX11_clearSlots_5 : decode cX11_clearSlots 5 = .ok (.getfield 9, 3) := by decide +kernel
theorem dX11_clearSlots_8 : decode cX11_clearSlots 8 = .ok (.bipush 118, 2) := by decide +kernel
theorem dX11_clearSlots_10 : decode cX11_clearSlots 10 = .ok (.iaload, 1) := by decide +kernel
theorem dX11_clearSlots_11 : decode cX11_clearSlots 11 = .ok (.istore_n 1, 1) := by decide +kernel
theorem dX11_clearSlots_12 : decode cX11_clearSlots 12 = .ok (.aload_n 0, 1) := by decide +kernel
theorem dX11_clearSlots_13 : decode cX11_clearSlots 13 = .ok (.getfield 9, 3) := by decide +kernel
theorem dX11_clearSlots_16 : decode cX11_clearSlots 16 = .ok (.bipush 118, 2) := by decide +kernel
theorem dX11_clearSlots_18 : decode cX11_clearSlots 18 = .ok (.iconst 0, 1) := by decide +kernel
theorem dX11_clearSlots_19 : decode cX11_clearSlots 19 = .ok (.iastore, 1) := by decide +kernel
theorem dX11_clearSlots_20 : decode cX11_clearSlots 20 = .ok (.iload_n 1, 1) := by decide +kernel
theorem dX11_clearSlots_21 : decode cX11_clearSlots 21 = .ok (.ireturn, 1) := by decide +kernel
theorem dX11_append_0 : decode cX11_append 0 = .ok (.iload_n 1, 1) := by decide +kernel
theorem dX11_append_1 : decode cX11_append 1 = .ok (.iconst 0, 1) := by decide +kernel
theorem dX11_append_2 : decode cX11_append 2 = .ok (.bipush 127, 2) := by decide +kernel
theorem dX11_append_4 : decode cX11_append 4 = .ok (.invokestatic 73, 3) := by decide +kernel
theorem dX11_append_7 : decode cX11_append 7 = .ok (.ifCond .eq 13, 3) := by decide +kernel
theorem dX11_append_10 : decode cX11_append 10 = .ok (.iload_n 2, 1) := by decide +kernel
theorem dX11_append_11 : decode cX11_append 11 = .ok (.iconst 1, 1) := by decide +kernel
theorem dX11_append_12 : decode cX11_append 12 = .ok (.bipush 60, 2) := by decide +kernel
theorem dX11_append_14 : decode cX11_append 14 = .ok (.invokestatic 73, 3) := by decide +kernel
theorem dX11_append_17 : decode cX11_append 17 = .ok (.ifCond .ne 6, 3) := by decide +kernel
theorem dX11_append_20 : decode cX11_append 20 = .ok (.bipush (-2), 2) := by decide +kernel
theorem dX11_append_22 : decode cX11_append 22 = .ok (.ireturn, 1) := by decide +kernel
theorem dX11_append_23 : decode cX11_append 23 = .ok (.aload_n 0, 1) := by decide +kernel
theorem dX11_append_24 : decode cX11_append 24 = .ok (.getfield 105, 3) := by decide +kernel
theorem dX11_append_27 : decode cX11_append 27 = .ok (.iload_n 2, 1) := by decide +kernel
theorem dX11_append_28 : decode cX11_append 28 = .ok (.iadd, 1) := by decide +kernel
theorem dX11_append_29 : decode cX11_append 29 = .ok (.bipush 60, 2) := by decide +kernel
theorem dX11_append_31 : decode cX11_append 31 = .ok (.if_icmp .le 6, 3) := by decide +kernel
theorem dX11_append_34 : decode cX11_append 34 = .ok (.bipush (-3), 2) := by decide +kernel
theorem dX11_append_36 : decode cX11_append 36 = .ok (.ireturn, 1) := by decide +kernel
theorem dX11_append_37 : decode cX11_append 37 = .ok (.iconst 0, 1) := by decide +kernel
theorem dX11_append_38 : decode cX11_append 38 = .ok (.istore_n 3, 1) := by decide +kernel
theorem dX11_append_39 : decode cX11_append 39 = .ok (.iload_n 3, 1) := by decide +kernel
theorem dX11_append_40 : decode cX11_append 40 = .ok (.iload_n 2, 1) := by decide +kernel
theorem dX11_append_41 : decode cX11_append 41 = .ok (.if_icmp .ge 29, 3) := by decide +kernel
theorem dX11_append_44 : decode cX11_append 44 = .ok (.aload_n 0, 1) := by decide +kernel
theorem dX11_append_45 : decode cX11_append 45 = .ok (.getfield 16, 3) := by decide +kernel
theorem dX11_append_48 : decode cX11_append 48 = .ok (.aload_n 0, 1) := by decide +kernel
theorem dX11_append_49 : decode cX11_append 49 = .ok (.getfield 105, 3) := by decide +kernel
theorem dX11_append_52 : decode cX11_append 52 = .ok (.iload_n 1, 1) := by decide +kernel
theorem dX11_append_53 : decode cX11_append 53 = .ok (.iastore, 1) := by decide +kernel
theorem dX11_append_54 : decode cX11_append 54 = .ok (.aload_n 0, 1) := by decide +kernel
theorem dX11_append_55 : decode cX11_append 55 = .ok (.dup, 1) := by decide +kernel
theorem dX11_append_56 : decode cX11_append 56 = .ok (.getfield 105, 3) := by decide +kernel
theorem dX11_append_59 : decode cX11_append 59 = .ok (.iconst 1, 1) := by decide +kernel
theorem dX11_append_60 : decode cX11_append 60 = .ok (.iadd, 1) := by decide +kernel
theorem dX11_append_61 : decode cX11_append 61 = .ok (.putfield 105, 3) := by decide +kernel
theorem dX11_append_64 : decode cX11_append 64 = .ok (.iinc 3 1, 3) := by decide +kernel
theorem dX11_append_67 : decode cX11_append 67 = .ok (.goto (-28), 3) := by decide +kernel
theorem dX11_append_70 : decode cX11_append 70 = .ok (.aload_n 0, 1) := by decide +kernel
theorem dX11_append_71 : decode cX11_append 71 = .ok (.getfield 105, 3) := by decide +kernel
theorem dX11_append_74 : decode cX11_append 74 = .ok (.ireturn, 1) := by decide +kernel
theorem dX11_here_0 : decode cX11_here 0 = .ok (.aload_n 0, 1) := by decide +kernel
theorem dX11_here_1 : decode cX11_here 1 = .ok (.getfield 108, 3) := by decide +kernel
theorem dX11_here_4 : decode cX11_here 4 = .ok (.aload_n 0, 1) := by decide +kernel
theorem dX11_here_5 : decode cX11_here 5 = .ok (.getfield 105, 3) := by decide +kernel
theorem dX11_here_8 : decode cX11_here 8 = .ok (.if_icmp .ge 15, 3) := by decide +kernel
theorem dX11_here_11 : decode cX11_here 11 = .ok (.aload_n 0, 1) := by decide +kernel
theorem dX11_here_12 : decode cX11_here 12 = .ok (.getfield 16, 3) := by decide +kernel
theorem dX11_here_15 : decode cX11_here 15 = .ok (.aload_n 0, 1) := by decide +kernel
theorem dX11_here_16 : decode cX11_here 16 = .ok (.getfield 108, 3) := by decide +kernel
theorem dX11_here_19 : decode cX11_here 19 = .ok (.iaload, 1) := by decide +kernel
theorem dX11_here_20 : decode cX11_here 20 = .ok (.goto 4, 3) := by decide +kernel
theorem dX11_here_23 : decode cX11_here 23 = .ok (.iconst (-1), 1) := by decide +kernel
theorem dX11_here_24 : decode cX11_here 24 = .ok (.ireturn, 1) := by decide +kernel
theorem dX11_readsAll_0 : decode cX11_readsAll 0 = .ok (.aload_n 0, 1) := by decide +kernel
theorem dX11_readsAll_1 : decode cX11_readsAll 1 = .ok (.iconst 0, 1) := by decide +kernel
theorem dX11_readsAll_2 : decode cX11_readsAll 2 = .ok (.putfield 108, 3) := by decide +kernel
theorem dX11_readsAll_5 : decode cX11_readsAll 5 = .ok (.iconst 0, 1) := by decide +kernel
theorem dX11_readsAll_6 : decode cX11_readsAll 6 = .ok (.istore_n 1, 1) := by decide +kernel
theorem dX11_readsAll_7 : decode cX11_readsAll 7 = .ok (.aload_n 0, 1) := by decide +kernel
theorem dX11_readsAll_8 : decode cX11_readsAll 8 = .ok (.invokevirtual 111, 3) := by decide +kernel
theorem dX11_readsAll_11 : decode cX11_readsAll 11 = .ok (.bipush 97, 2) := by decide +kernel
theorem dX11_readsAll_13 : decode cX11_readsAll 13 = .ok (.bipush 102, 2) := by decide +kernel
theorem dX11_readsAll_15 : decode cX11_readsAll 15 = .ok (.invokestatic 73, 3) := by decide +kernel
theorem dX11_readsAll_18 : decode cX11_readsAll 18 = .ok (.ifCond .ne 5, 3) := by decide +kernel
theorem dX11_readsAll_21 : decode cX11_readsAll 21 = .ok (.iconst (-1), 1) := by decide +kernel
theorem dX11_readsAll_22 : decode cX11_readsAll 22 = .ok (.ireturn, 1) := by decide +kernel
theorem dX11_readsAll_23 : decode cX11_readsAll 23 = .ok (.aload_n 0, 1) := by decide +kernel
theorem dX11_readsAll_24 : decode cX11_readsAll 24 = .ok (.invokevirtual 111, 3) := by decide +kernel
theorem dX11_readsAll_27 : decode cX11_readsAll 27 = .ok (.bipush 97, 2) := by decide +kernel
theorem dX11_readsAll_29 : decode cX11_readsAll 29 = .ok (.isub, 1) := by decide +kernel
theorem dX11_readsAll_30 : decode cX11_readsAll 30 = .ok (.istore_n 2, 1) := by decide +kernel
theorem dX11_readsAll_31 : decode cX11_readsAll 31 = .ok (.aload_n 0, 1) := by decide +kernel
theorem dX11_readsAll_32 : decode cX11_readsAll 32 = .ok (.dup, 1) := by decide +kernel
theorem dX11_readsAll_33 : decode cX11_readsAll 33 = .ok (.getfield 108, 3) := by decide +kernel
theorem dX11_readsAll_36 : decode cX11_readsAll 36 = .ok (.iconst 1, 1) := by decide +kernel
theorem dX11_readsAll_37 : decode cX11_readsAll 37 = .ok (.iadd, 1) := by decide +kernel
theorem dX11_readsAll_38 : decode cX11_readsAll 38 = .ok (.putfield 108, 3) := by decide +kernel
theorem dX11_readsAll_41 : decode cX11_readsAll 41 = .ok (.aload_n 0, 1) := by decide +kernel
theorem dX11_readsAll_42 : decode cX11_readsAll 42 = .ok (.invokevirtual 111, 3) := by decide +kernel
theorem dX11_readsAll_45 : decode cX11_readsAll 45 = .ok (.bipush 49, 2) := by decide +kernel
theorem dX11_readsAll_47 : decode cX11_readsAll 47 = .ok (.bipush 54, 2) := by decide +kernel
theorem dX11_readsAll_49 : decode cX11_readsAll 49 = .ok (.invokestatic 73, 3) := by decide +kernel
theorem dX11_readsAll_52 : decode cX11_readsAll 52 = .ok (.ifCond .ne 5, 3) := by decide +kernel
theorem dX11_readsAll_55 : decode cX11_readsAll 55 = .ok (.iconst (-1), 1) := by decide +kernel
theorem dX11_readsAll_56 : decode cX11_readsAll 56 = .ok (.ireturn, 1) := by decide +kernel
theorem dX11_readsAll_57 : decode cX11_readsAll 57 = .ok (.aload_n 0, 1) := by decide +kernel
theorem dX11_readsAll_58 : decode cX11_readsAll 58 = .ok (.invokevirtual 111, 3) := by decide +kernel
theorem dX11_readsAll_61 : decode cX11_readsAll 61 = .ok (.bipush 49, 2) := by decide +kernel
theorem dX11_readsAll_63 : decode cX11_readsAll 63 = .ok (.isub, 1) := by decide +kernel
theorem dX11_readsAll_64 : decode cX11_readsAll 64 = .ok (.istore_n 3, 1) := by decide +kernel
theorem dX11_readsAll_65 : decode cX11_readsAll 65 = .ok (.aload_n 0, 1) := by decide +kernel
theorem dX11_readsAll_66 : decode cX11_readsAll 66 = .ok (.dup, 1) := by decide +kernel
theorem dX11_readsAll_67 : decode cX11_readsAll 67 = .ok (.getfield 108, 3) := by decide +kernel
theorem dX11_readsAll_70 : decode cX11_readsAll 70 = .ok (.iconst 1, 1) := by decide +kernel
theorem dX11_readsAll_71 : decode cX11_readsAll 71 = .ok (.iadd, 1) := by decide +kernel
theorem dX11_readsAll_72 : decode cX11_readsAll 72 = .ok (.putfield 108, 3) := by decide +kernel
theorem dX11_readsAll_75 : decode cX11_readsAll 75 = .ok (.iconst 0, 1) := by decide +kernel
theorem dX11_readsAll_76 : decode cX11_readsAll 76 = .ok (.istore 4, 2) := by decide +kernel
theorem dX11_readsAll_78 : decode cX11_readsAll 78 = .ok (.iload 4, 2) := by decide +kernel
theorem dX11_readsAll_80 : decode cX11_readsAll 80 = .ok (.iconst 2, 1) := by decide +kernel
theorem dX11_readsAll_81 : decode cX11_readsAll 81 = .ok (.if_icmp .ge 28, 3) := by decide +kernel
theorem dX11_readsAll_84 : decode cX11_readsAll 84 = .ok (.aload_n 0, 1) := by decide +kernel
theorem dX11_readsAll_85 : decode cX11_readsAll 85 = .ok (.invokevirtual 111, 3) := by decide +kernel
theorem dX11_readsAll_88 : decode cX11_readsAll 88 = .ok (.bipush 43, 2) := by decide +kernel
theorem dX11_readsAll_90 : decode cX11_readsAll 90 = .ok (.if_icmp .ne 19, 3) := by decide +kernel
theorem dX11_readsAll_93 : decode cX11_readsAll 93 = .ok (.iinc 4 1, 3) := by decide +kernel
theorem dX11_readsAll_96 : decode cX11_readsAll 96 = .ok (.aload_n 0, 1) := by decide +kernel
theorem dX11_readsAll_97 : decode cX11_readsAll 97 = .ok (.dup, 1) := by decide +kernel
theorem dX11_readsAll_98 : decode cX11_readsAll 98 = .ok (.getfield 108, 3) := by decide +kernel
theorem dX11_readsAll_101 : decode cX11_readsAll 101 = .ok (.iconst 1, 1) := by decide +kernel
theorem dX11_readsAll_102 : decode cX11_readsAll 102 = .ok (.iadd, 1) := by decide +kernel
theorem dX11_readsAll_103 : decode cX11_readsAll 103 = .ok (.putfield 108, 3) := by decide +kernel
theorem dX11_readsAll_106 : decode cX11_readsAll 106 = .ok (.goto (-28), 3) := by decide +kernel
theorem dX11_readsAll_109 : decode cX11_readsAll 109 = .ok (.aload_n 0, 1) := by decide +kernel
theorem dX11_readsAll_110 : decode cX11_readsAll 110 = .ok (.getfield 19, 3) := by decide +kernel
theorem dX11_readsAll_113 : decode cX11_readsAll 113 = .ok (.iload_n 1, 1) := by decide +kernel
theorem dX11_readsAll_114 : decode cX11_readsAll 114 = .ok (.iload_n 2, 1) := by decide +kernel
theorem dX11_readsAll_115 : decode cX11_readsAll 115 = .ok (.bipush 6, 2) := by decide +kernel
theorem dX11_readsAll_117 : decode cX11_readsAll 117 = .ok (.iload_n 3, 1) := by decide +kernel
theorem dX11_readsAll_118 : decode cX11_readsAll 118 = .ok (.imul, 1) := by decide +kernel
theorem dX11_readsAll_119 : decode cX11_readsAll 119 = .ok (.iadd, 1) := by decide +kernel
theorem dX11_readsAll_120 : decode cX11_readsAll 120 = .ok (.bipush 36, 2) := by decide +kernel
theorem dX11_readsAll_122 : decode cX11_readsAll 122 = .ok (.iload 4, 2) := by decide +kernel
theorem dX11_readsAll_124 : decode cX11_readsAll 124 = .ok (.imul, 1) := by decide +kernel
theorem dX11_readsAll_125 : decode cX11_readsAll 125 = .ok (.iadd, 1) := by decide +kernel
theorem dX11_readsAll_126 : decode cX11_readsAll 126 = .ok (.iastore, 1) := by decide +kernel
theorem dX11_readsAll_127 : decode cX11_readsAll 127 = .ok (.iinc 1 1, 3) := by decide +kernel
theorem dX11_readsAll_130 : decode cX11_readsAll 130 = .ok (.aload_n 0, 1) := by decide +kernel
theorem dX11_readsAll_131 : decode cX11_readsAll 131 = .ok (.getfield 108, 3) := by decide +kernel
theorem dX11_readsAll_134 : decode cX11_readsAll 134 = .ok (.aload_n 0, 1) := by decide +kernel
theorem dX11_readsAll_135 : decode cX11_readsAll 135 = .ok (.getfield 105, 3) := by decide +kernel
theorem dX11_readsAll_138 : decode cX11_readsAll 138 = .ok (.if_icmp .ne 5, 3) := by decide +kernel
theorem dX11_readsAll_141 : decode cX11_readsAll 141 = .ok (.iload_n 1, 1) := by decide +kernel
theorem dX11_readsAll_142 : decode cX11_readsAll 142 = .ok (.ireturn, 1) := by decide +kernel
theorem dX11_readsAll_143 : decode cX11_readsAll 143 = .ok (.aload_n 0, 1) := by decide +kernel
theorem dX11_readsAll_144 : decode cX11_readsAll 144 = .ok (.invokevirtual 111, 3) := by decide +kernel
theorem dX11_readsAll_147 : decode cX11_readsAll 147 = .ok (.bipush 32, 2) := by decide +kernel
theorem dX11_readsAll_149 : decode cX11_readsAll 149 = .ok (.if_icmp .eq 5, 3) := by decide +kernel
theorem dX11_readsAll_152 : decode cX11_readsAll 152 = .ok (.iconst (-1), 1) := by decide +kernel
theorem dX11_readsAll_153 : decode cX11_readsAll 153 = .ok (.ireturn, 1) := by decide +kernel
theorem dX11_readsAll_154 : decode cX11_readsAll 154 = .ok (.aload_n 0, 1) := by decide +kernel
theorem dX11_readsAll_155 : decode cX11_readsAll 155 = .ok (.dup, 1) := by decide +kernel
theorem dX11_readsAll_156 : decode cX11_readsAll 156 = .ok (.getfield 108, 3) := by decide +kernel
theorem dX11_readsAll_159 : decode cX11_readsAll 159 = .ok (.iconst 1, 1) := by decide +kernel
theorem dX11_readsAll_160 : decode cX11_readsAll 160 = .ok (.iadd, 1) := by decide +kernel
theorem dX11_readsAll_161 : decode cX11_readsAll 161 = .ok (.putfield 108, 3) := by decide +kernel
theorem dX11_readsAll_164 : decode cX11_readsAll 164 = .ok (.goto (-157), 3) := by decide +kernel
theorem dX11_isTaken_0 : decode cX11_isTaken 0 = .ok (.iconst 0, 1) := by decide +kernel
theorem dX11_isTaken_1 : decode cX11_isTaken 1 = .ok (.istore_n 2, 1) := by decide +kernel
theorem dX11_isTaken_2 : decode cX11_isTaken 2 = .ok (.iconst 0, 1) := by decide +kernel
theorem dX11_isTaken_3 : decode cX11_isTaken 3 = .ok (.istore_n 3, 1) := by decide +kernel
theorem dX11_isTaken_4 : decode cX11_isTaken 4 = .ok (.iload_n 3, 1) := by decide +kernel
theorem dX11_isTaken_5 : decode cX11_isTaken 5 = .ok (.iload_n 1, 1) := by decide +kernel
theorem dX11_isTaken_6 : decode cX11_isTaken 6 = .ok (.if_icmp .ge 61, 3) := by decide +kernel
theorem dX11_isTaken_9 : decode cX11_isTaken 9 = .ok (.iload_n 2, 1) := by decide +kernel
theorem dX11_isTaken_10 : decode cX11_isTaken 10 = .ok (.aload_n 0, 1) := by decide +kernel
theorem dX11_isTaken_11 : decode cX11_isTaken 11 = .ok (.aload_n 0, 1) := by decide +kernel
theorem dX11_isTaken_12 : decode cX11_isTaken 12 = .ok (.getfield 19, 3) := by decide +kernel
theorem dX11_isTaken_15 : decode cX11_isTaken 15 = .ok (.iload_n 3, 1) := by decide +kernel
theorem dX11_isTaken_16 : decode cX11_isTaken 16 = .ok (.iaload, 1) := by decide +kernel
theorem dX11_isTaken_17 : decode cX11_isTaken 17 = .ok (.invokevirtual 99, 3) := by decide +kernel
theorem dX11_isTaken_20 : decode cX11_isTaken 20 = .ok (.ior, 1) := by decide +kernel
theorem dX11_isTaken_21 : decode cX11_isTaken 21 = .ok (.istore_n 2, 1) := by decide +kernel
theorem dX11_isTaken_22 : decode cX11_isTaken 22 = .ok (.iconst 0, 1) := by decide +kernel
theorem dX11_isTaken_23 : decode cX11_isTaken 23 = .ok (.istore 4, 2) := by decide +kernel
theorem dX11_isTaken_25 : decode cX11_isTaken 25 = .ok (.iload 4, 2) := by decide +kernel
theorem dX11_isTaken_27 : decode cX11_isTaken 27 = .ok (.iload_n 3, 1) := by decide +kernel
theorem dX11_isTaken_28 : decode cX11_isTaken 28 = .ok (.if_icmp .ge 33, 3) := by decide +kernel
theorem dX11_isTaken_31 : decode cX11_isTaken 31 = .ok (.iload_n 2, 1) := by decide +kernel
theorem dX11_isTaken_32 : decode cX11_isTaken 32 = .ok (.aload_n 0, 1) := by decide +kernel
theorem dX11_isTaken_33 : decode cX11_isTaken 33 = .ok (.getfield 19, 3) := by decide +kernel
theorem dX11_isTaken_36 : decode cX11_isTaken 36 = .ok (.iload 4, 2) := by decide +kernel
theorem dX11_isTaken_38 : decode cX11_isTaken 38 = .ok (.iaload, 1) := by decide +kernel
theorem dX11_isTaken_39 : decode cX11_isTaken 39 = .ok (.aload_n 0, 1) := by decide +kernel
theorem dX11_isTaken_40 : decode cX11_isTaken 40 = .ok (.getfield 19, 3) := by decide +kernel
theorem dX11_isTaken_43 : decode cX11_isTaken 43 = .ok (.iload_n 3, 1) := by decide +kernel
theorem dX11_isTaken_44 : decode cX11_isTaken 44 = .ok (.iaload, 1) := by decide +kernel
theorem dX11_isTaken_45 : decode cX11_isTaken 45 = .ok (.if_icmp .ne 7, 3) := by decide +kernel
theorem dX11_isTaken_48 : decode cX11_isTaken 48 = .ok (.iconst 1, 1) := by decide +kernel
theorem dX11_isTaken_49 : decode cX11_isTaken 49 = .ok (.goto 4, 3) := by decide +kernel
theorem dX11_isTaken_52 : decode cX11_isTaken 52 = .ok (.iconst 0, 1) := by decide +kernel
theorem dX11_isTaken_53 : decode cX11_isTaken 53 = .ok (.ior, 1) := by decide +kernel
theorem dX11_isTaken_54 : decode cX11_isTaken 54 = .ok (.istore_n 2, 1) := by decide +kernel
theorem dX11_isTaken_55 : decode cX11_isTaken 55 = .ok (.iinc 4 1, 3) := by decide +kernel
theorem dX11_isTaken_58 : decode cX11_isTaken 58 = .ok (.goto (-33), 3) := by decide +kernel
theorem dX11_isTaken_61 : decode cX11_isTaken 61 = .ok (.iinc 3 1, 3) := by decide +kernel
theorem dX11_isTaken_64 : decode cX11_isTaken 64 = .ok (.goto (-60), 3) := by decide +kernel
theorem dX11_isTaken_67 : decode cX11_isTaken 67 = .ok (.iload_n 2, 1) := by decide +kernel
theorem dX11_isTaken_68 : decode cX11_isTaken 68 = .ok (.ireturn, 1) := by decide +kernel
theorem dX11_readSlots_0 : decode cX11_readSlots 0 = .ok (.aload_n 0, 1) := by decide +kernel
theorem dX11_readSlots_1 : decode cX11_readSlots 1 = .ok (.invokevirtual 115, 3) := by decide +kernel
theorem dX11_readSlots_4 : decode cX11_readSlots 4 = .ok (.istore_n 1, 1) := by decide +kernel
theorem dX11_readSlots_5 : decode cX11_readSlots 5 = .ok (.aload_n 0, 1) := by decide +kernel
theorem dX11_readSlots_6 : decode cX11_readSlots 6 = .ok (.iconst 0, 1) := by decide +kernel
theorem dX11_readSlots_7 : decode cX11_readSlots 7 = .ok (.putfield 105, 3) := by decide +kernel
theorem dX11_readSlots_10 : decode cX11_readSlots 10 = .ok (.iload_n 1, 1) := by decide +kernel
theorem dX11_readSlots_11 : decode cX11_readSlots 11 = .ok (.ifCond .ge 11, 3) := by decide +kernel
theorem dX11_readSlots_14 : decode cX11_readSlots 14 = .ok (.bipush (-100), 2) := by decide +kernel
theorem dX11_readSlots_16 : decode cX11_readSlots 16 = .ok (.aload_n 0, 1) := by decide +kernel
theorem dX11_readSlots_17 : decode cX11_readSlots 17 = .ok (.getfield 108, 3) := by decide +kernel
theorem dX11_readSlots_20 : decode cX11_readSlots 20 = .ok (.isub, 1) := by decide +kernel
theorem dX11_readSlots_21 : decode cX11_readSlots 21 = .ok (.ireturn, 1) := by decide +kernel
theorem dX11_readSlots_22 : decode cX11_readSlots 22 = .ok (.iload_n 1, 1) := by decide +kernel
theorem dX11_readSlots_23 : decode cX11_readSlots 23 = .ok (.bipush 6, 2) := by decide +kernel
theorem dX11_readSlots_25 : decode cX11_readSlots 25 = .ok (.if_icmp .le 6, 3) := by decide +kernel
theorem dX11_readSlots_28 : decode cX11_readSlots 28 = .ok (.bipush (-3), 2) := by decide +kernel
theorem dX11_readSlots_30 : decode cX11_readSlots 30 = .ok (.ireturn, 1) := by decide +kernel
theorem dX11_readSlots_31 : decode cX11_readSlots 31 = .ok (.aload_n 0, 1) := by decide +kernel
theorem dX11_readSlots_32 : decode cX11_readSlots 32 = .ok (.iload_n 1, 1) := by decide +kernel
theorem dX11_readSlots_33 : decode cX11_readSlots 33 = .ok (.invokevirtual 118, 3) := by decide +kernel
theorem dX11_readSlots_36 : decode cX11_readSlots 36 = .ok (.ifCond .eq 6, 3) := by decide +kernel
theorem dX11_readSlots_39 : decode cX11_readSlots 39 = .ok (.bipush (-4), 2) := by decide +kernel
theorem dX11_readSlots_41 : decode cX11_readSlots 41 = .ok (.ireturn, 1) := by decide +kernel
theorem dX11_readSlots_42 : decode cX11_readSlots 42 = .ok (.aload_n 0, 1) := by decide +kernel
theorem dX11_readSlots_43 : decode cX11_readSlots 43 = .ok (.invokevirtual 86, 3) := by decide +kernel
theorem dX11_readSlots_46 : decode cX11_readSlots 46 = .ok (.aload_n 0, 1) := by decide +kernel
theorem dX11_readSlots_47 : decode cX11_readSlots 47 = .ok (.getfield 9, 3) := by decide +kernel
theorem dX11_readSlots_50 : decode cX11_readSlots 50 = .ok (.bipush 118, 2) := by decide +kernel
theorem dX11_readSlots_52 : decode cX11_readSlots 52 = .ok (.iload_n 1, 1) := by decide +kernel
theorem dX11_readSlots_53 : decode cX11_readSlots 53 = .ok (.iastore, 1) := by decide +kernel
theorem dX11_readSlots_54 : decode cX11_readSlots 54 = .ok (.iconst 0, 1) := by decide +kernel
theorem dX11_readSlots_55 : decode cX11_readSlots 55 = .ok (.istore_n 2, 1) := by decide +kernel
theorem dX11_readSlots_56 : decode cX11_readSlots 56 = .ok (.iload_n 2, 1) := by decide +kernel
theorem dX11_readSlots_57 : decode cX11_readSlots 57 = .ok (.iload_n 1, 1) := by decide +kernel
theorem dX11_readSlots_58 : decode cX11_readSlots 58 = .ok (.if_icmp .ge 24, 3) := by decide +kernel
theorem dX11_readSlots_61 : decode cX11_readSlots 61 = .ok (.aload_n 0, 1) := by decide +kernel
theorem dX11_readSlots_62 : decode cX11_readSlots 62 = .ok (.getfield 9, 3) := by decide +kernel
theorem dX11_readSlots_65 : decode cX11_readSlots 65 = .ok (.bipush 119, 2) := by decide +kernel
theorem dX11_readSlots_67 : decode cX11_readSlots 67 = .ok (.iload_n 2, 1) := by decide +kernel
theorem dX11_readSlots_68 : decode cX11_readSlots 68 = .ok (.iadd, 1) := by decide +kernel
theorem dX11_readSlots_69 : decode cX11_readSlots 69 = .ok (.aload_n 0, 1) := by decide +kernel
theorem dX11_readSlots_70 : decode cX11_readSlots 70 = .ok (.getfield 19, 3) := by decide +kernel
theorem dX11_readSlots_73 : decode cX11_readSlots 73 = .ok (.iload_n 2, 1) := by decide +kernel
theorem dX11_readSlots_74 : decode cX11_readSlots 74 = .ok (.iaload, 1) := by decide +kernel
theorem dX11_readSlots_75 : decode cX11_readSlots 75 = .ok (.iastore, 1) := by decide +kernel
theorem dX11_readSlots_76 : decode cX11_readSlots 76 = .ok (.iinc 2 1, 3) := by decide +kernel
theorem dX11_readSlots_79 : decode cX11_readSlots 79 = .ok (.goto (-23), 3) := by decide +kernel
theorem dX11_readSlots_82 : decode cX11_readSlots 82 = .ok (.iload_n 1, 1) := by decide +kernel
theorem dX11_readSlots_83 : decode cX11_readSlots 83 = .ok (.ireturn, 1) := by decide +kernel
theorem dX11_next_0 : decode cX11_next 0 = .ok (.iload_n 1, 1) := by decide +kernel
theorem dX11_next_1 : decode cX11_next 1 = .ok (.bipush 6, 2) := by decide +kernel
theorem dX11_next_3 : decode cX11_next 3 = .ok (.irem, 1) := by decide +kernel
theorem dX11_next_4 : decode cX11_next 4 = .ok (.iload_n 2, 1) := by decide +kernel
theorem dX11_next_5 : decode cX11_next 5 = .ok (.iconst 1, 1) := by decide +kernel
theorem dX11_next_6 : decode cX11_next 6 = .ok (.if_icmp .ne 7, 3) := by decide +kernel
theorem dX11_next_9 : decode cX11_next 9 = .ok (.iconst 1, 1) := by decide +kernel
theorem dX11_next_10 : decode cX11_next 10 = .ok (.goto 13, 3) := by decide +kernel
theorem dX11_next_13 : decode cX11_next 13 = .ok (.iload_n 2, 1) := by decide +kernel
theorem dX11_next_14 : decode cX11_next 14 = .ok (.iconst 2, 1) := by decide +kernel
theorem dX11_next_15 : decode cX11_next 15 = .ok (.if_icmp .ne 7, 3) := by decide +kernel
theorem dX11_next_18 : decode cX11_next 18 = .ok (.iconst (-1), 1) := by decide +kernel
theorem dX11_next_19 : decode cX11_next 19 = .ok (.goto 4, 3) := by decide +kernel
theorem dX11_next_22 : decode cX11_next 22 = .ok (.iconst 0, 1) := by decide +kernel
theorem dX11_next_23 : decode cX11_next 23 = .ok (.iadd, 1) := by decide +kernel
theorem dX11_next_24 : decode cX11_next 24 = .ok (.istore_n 3, 1) := by decide +kernel
theorem dX11_next_25 : decode cX11_next 25 = .ok (.iload_n 1, 1) := by decide +kernel
theorem dX11_next_26 : decode cX11_next 26 = .ok (.bipush 6, 2) := by decide +kernel
theorem dX11_next_28 : decode cX11_next 28 = .ok (.idiv, 1) := by decide +kernel
theorem dX11_next_29 : decode cX11_next 29 = .ok (.bipush 6, 2) := by decide +kernel
theorem dX11_next_31 : decode cX11_next 31 = .ok (.irem, 1) := by decide +kernel
theorem dX11_next_32 : decode cX11_next 32 = .ok (.iload_n 2, 1) := by decide +kernel
theorem dX11_next_33 : decode cX11_next 33 = .ok (.iconst 3, 1) := by decide +kernel
theorem dX11_next_34 : decode cX11_next 34 = .ok (.if_icmp .ne 7, 3) := by decide +kernel
theorem dX11_next_37 : decode cX11_next 37 = .ok (.iconst 1, 1) := by decide +kernel
theorem dX11_next_38 : decode cX11_next 38 = .ok (.goto 13, 3) := by decide +kernel
theorem dX11_next_41 : decode cX11_next 41 = .ok (.iload_n 2, 1) := by decide +kernel
theorem dX11_next_42 : decode cX11_next 42 = .ok (.iconst 4, 1) := by decide +kernel
theorem dX11_next_43 : decode cX11_next 43 = .ok (.if_icmp .ne 7, 3) := by decide +kernel
theorem dX11_next_46 : decode cX11_next 46 = .ok (.iconst (-1), 1) := by decide +kernel
theorem dX11_next_47 : decode cX11_next 47 = .ok (.goto 4, 3) := by decide +kernel
theorem dX11_next_50 : decode cX11_next 50 = .ok (.iconst 0, 1) := by decide +kernel
theorem dX11_next_51 : decode cX11_next 51 = .ok (.iadd, 1) := by decide +kernel
theorem dX11_next_52 : decode cX11_next 52 = .ok (.istore 4, 2) := by decide +kernel
theorem dX11_next_54 : decode cX11_next 54 = .ok (.iload_n 1, 1) := by decide +kernel
theorem dX11_next_55 : decode cX11_next 55 = .ok (.invokestatic 121, 3) := by decide +kernel
theorem dX11_next_58 : decode cX11_next 58 = .ok (.iload_n 2, 1) := by decide +kernel
theorem dX11_next_59 : decode cX11_next 59 = .ok (.iconst 5, 1) := by decide +kernel
theorem dX11_next_60 : decode cX11_next 60 = .ok (.if_icmp .ne 7, 3) := by decide +kernel
theorem dX11_next_63 : decode cX11_next 63 = .ok (.iconst 1, 1) := by decide +kernel
theorem dX11_next_64 : decode cX11_next 64 = .ok (.goto 14, 3) := by decide +kernel
theorem dX11_next_67 : decode cX11_next 67 = .ok (.iload_n 2, 1) := by decide +kernel
theorem dX11_next_68 : decode cX11_next 68 = .ok (.bipush 6, 2) := by decide +kernel
theorem dX11_next_70 : decode cX11_next 70 = .ok (.if_icmp .ne 7, 3) := by decide +kernel
theorem dX11_next_73 : decode cX11_next 73 = .ok (.iconst (-1), 1) := by decide +kernel
theorem dX11_next_74 : decode cX11_next 74 = .ok (.goto 4, 3) := by decide +kernel
theorem dX11_next_77 : decode cX11_next 77 = .ok (.iconst 0, 1) := by decide +kernel
theorem dX11_next_78 : decode cX11_next 78 = .ok (.iadd, 1) := by decide +kernel
theorem dX11_next_79 : decode cX11_next 79 = .ok (.istore 5, 2) := by decide +kernel
theorem dX11_next_81 : decode cX11_next 81 = .ok (.iload_n 3, 1) := by decide +kernel
theorem dX11_next_82 : decode cX11_next 82 = .ok (.iconst 0, 1) := by decide +kernel
theorem dX11_next_83 : decode cX11_next 83 = .ok (.iconst 5, 1) := by decide +kernel
theorem dX11_next_84 : decode cX11_next 84 = .ok (.invokestatic 73, 3) := by decide +kernel
theorem dX11_next_87 : decode cX11_next 87 = .ok (.ifCond .eq 23, 3) := by decide +kernel
theorem dX11_next_90 : decode cX11_next 90 = .ok (.iload 4, 2) := by decide +kernel
theorem dX11_next_92 : decode cX11_next 92 = .ok (.iconst 0, 1) := by decide +kernel
theorem dX11_next_93 : decode cX11_next 93 = .ok (.iconst 5, 1) := by decide +kernel
theorem dX11_next_94 : decode cX11_next 94 = .ok (.invokestatic 73, 3) := by decide +kernel
theorem dX11_next_97 : decode cX11_next 97 = .ok (.ifCond .eq 13, 3) := by decide +kernel
theorem dX11_next_100 : decode cX11_next 100 = .ok (.iload 5, 2) := by decide +kernel
theorem dX11_next_102 : decode cX11_next 102 = .ok (.iconst 0, 1) := by decide +kernel
theorem dX11_next_103 : decode cX11_next 103 = .ok (.iconst 2, 1) := by decide +kernel
theorem dX11_next_104 : decode cX11_next 104 = .ok (.invokestatic 73, 3) := by decide +kernel
theorem dX11_next_107 : decode cX11_next 107 = .ok (.ifCond .ne 5, 3) := by decide +kernel
theorem dX11_next_110 : decode cX11_next 110 = .ok (.iconst (-1), 1) := by decide +kernel
theorem dX11_next_111 : decode cX11_next 111 = .ok (.ireturn, 1) := by decide +kernel
theorem dX11_next_112 : decode cX11_next 112 = .ok (.iload_n 3, 1) := by decide +kernel
theorem dX11_next_113 : decode cX11_next 113 = .ok (.bipush 6, 2) := by decide +kernel
theorem dX11_next_115 : decode cX11_next 115 = .ok (.iload 4, 2) := by decide +kernel
theorem dX11_next_117 : decode cX11_next 117 = .ok (.imul, 1) := by decide +kernel
theorem dX11_next_118 : decode cX11_next 118 = .ok (.iadd, 1) := by decide +kernel
theorem dX11_next_119 : decode cX11_next 119 = .ok (.bipush 36, 2) := by decide +kernel
theorem dX11_next_121 : decode cX11_next 121 = .ok (.iload 5, 2) := by decide +kernel
theorem dX11_next_123 : decode cX11_next 123 = .ok (.imul, 1) := by decide +kernel
theorem dX11_next_124 : decode cX11_next 124 = .ok (.iadd, 1) := by decide +kernel
theorem dX11_next_125 : decode cX11_next 125 = .ok (.istore 6, 2) := by decide +kernel
theorem dX11_next_127 : decode cX11_next 127 = .ok (.aload_n 0, 1) := by decide +kernel
theorem dX11_next_128 : decode cX11_next 128 = .ok (.iload 6, 2) := by decide +kernel
theorem dX11_next_130 : decode cX11_next 130 = .ok (.invokevirtual 99, 3) := by decide +kernel
theorem dX11_next_133 : decode cX11_next 133 = .ok (.ifCond .eq 7, 3) := by decide +kernel
theorem dX11_next_136 : decode cX11_next 136 = .ok (.iconst (-1), 1) := by decide +kernel
theorem dX11_next_137 : decode cX11_next 137 = .ok (.goto 5, 3) := by decide +kernel
theorem dX11_next_140 : decode cX11_next 140 = .ok (.iload 6, 2) := by decide +kernel
theorem dX11_next_142 : decode cX11_next 142 = .ok (.ireturn, 1) := by decide +kernel
theorem dX11_ticks_0 : decode cX11_ticks 0 = .ok (.aload_n 0, 1) := by decide +kernel
theorem dX11_ticks_1 : decode cX11_ticks 1 = .ok (.getfield 9, 3) := by decide +kernel
theorem dX11_ticks_4 : decode cX11_ticks 4 = .ok (.iconst 0, 1) := by decide +kernel
theorem dX11_ticks_5 : decode cX11_ticks 5 = .ok (.iload_n 1, 1) := by decide +kernel
theorem dX11_ticks_6 : decode cX11_ticks 6 = .ok (.invokestatic 121, 3) := by decide +kernel
theorem dX11_ticks_9 : decode cX11_ticks 9 = .ok (.iadd, 1) := by decide +kernel
theorem dX11_ticks_10 : decode cX11_ticks 10 = .ok (.iaload, 1) := by decide +kernel
theorem dX11_ticks_11 : decode cX11_ticks 11 = .ok (.istore_n 3, 1) := by decide +kernel
theorem dX11_ticks_12 : decode cX11_ticks 12 = .ok (.iload_n 2, 1) := by decide +kernel
theorem dX11_ticks_13 : decode cX11_ticks 13 = .ok (.iconst 1, 1) := by decide +kernel
theorem dX11_ticks_14 : decode cX11_ticks 14 = .ok (.if_icmp .ne 8, 3) := by decide +kernel
theorem dX11_ticks_17 : decode cX11_ticks 17 = .ok (.iload_n 3, 1) := by decide +kernel
theorem dX11_ticks_18 : decode cX11_ticks 18 = .ok (.iconst 2, 1) := by decide +kernel
theorem dX11_ticks_19 : decode cX11_ticks 19 = .ok (.if_icmp .eq 33, 3) := by decide +kernel
theorem dX11_ticks_22 : decode cX11_ticks 22 = .ok (.iload_n 2, 1) := by decide +kernel
theorem dX11_ticks_23 : decode cX11_ticks 23 = .ok (.iconst 2, 1) := by decide +kernel
theorem dX11_ticks_24 : decode cX11_ticks 24 = .ok (.if_icmp .ne 8, 3) := by decide +kernel
theorem dX11_ticks_27 : decode cX11_ticks 27 = .ok (.iload_n 3, 1) := by decide +kernel
theorem dX11_ticks_28 : decode cX11_ticks 28 = .ok (.iconst 1, 1) := by decide +kernel
theorem dX11_ticks_29 : decode cX11_ticks 29 = .ok (.if_icmp .eq 23, 3) := by decide +kernel
theorem dX11_ticks_32 : decode cX11_ticks 32 = .ok (.iload_n 2, 1) := by decide +kernel
theorem dX11_ticks_33 : decode cX11_ticks 33 = .ok (.iconst 3, 1) := by decide +kernel
theorem dX11_ticks_34 : decode cX11_ticks 34 = .ok (.if_icmp .ne 8, 3) := by decide +kernel
theorem dX11_ticks_37 : decode cX11_ticks 37 = .ok (.iload_n 3, 1) := by decide +kernel
theorem dX11_ticks_38 : decode cX11_ticks 38 = .ok (.iconst 4, 1) := by decide +kernel
theorem dX11_ticks_39 : decode cX11_ticks 39 = .ok (.if_icmp .eq 13, 3) := by decide +kernel
theorem dX11_ticks_42 : decode cX11_ticks 42 = .ok (.iload_n 2, 1) := by decide +kernel
theorem dX11_ticks_43 : decode cX11_ticks 43 = .ok (.iconst 4, 1) := by decide +kernel
theorem dX11_ticks_44 : decode cX11_ticks 44 = .ok (.if_icmp .ne 12, 3) := by decide +kernel
theorem dX11_ticks_47 : decode cX11_ticks 47 = .ok (.iload_n 3, 1) := by decide +kernel
theorem dX11_ticks_48 : decode cX11_ticks 48 = .ok (.iconst 3, 1) := by decide +kernel
theorem dX11_ticks_49 : decode cX11_ticks 49 = .ok (.if_icmp .ne 7, 3) := by decide +kernel
theorem dX11_ticks_52 : decode cX11_ticks 52 = .ok (.iconst 1, 1) := by decide +kernel
theorem dX11_ticks_53 : decode cX11_ticks 53 = .ok (.goto 4, 3) := by decide +kernel
theorem dX11_ticks_56 : decode cX11_ticks 56 = .ok (.iconst 0, 1) := by decide +kernel
theorem dX11_ticks_57 : decode cX11_ticks 57 = .ok (.istore 4, 2) := by decide +kernel
theorem dX11_ticks_59 : decode cX11_ticks 59 = .ok (.iload 4, 2) := by decide +kernel
theorem dX11_ticks_61 : decode cX11_ticks 61 = .ok (.ifCond .eq 7, 3) := by decide +kernel
theorem dX11_ticks_64 : decode cX11_ticks 64 = .ok (.iconst 2, 1) := by decide +kernel
theorem dX11_ticks_65 : decode cX11_ticks 65 = .ok (.goto 4, 3) := by decide +kernel
theorem dX11_ticks_68 : decode cX11_ticks 68 = .ok (.iconst 1, 1) := by decide +kernel
theorem dX11_ticks_69 : decode cX11_ticks 69 = .ok (.ireturn, 1) := by decide +kernel
theorem dX11_measures_0 : decode cX11_measures 0 = .ok (.iconst 0, 1) := by decide +kernel
theorem dX11_measures_1 : decode cX11_measures 1 = .ok (.istore_n 2, 1) := by decide +kernel
theorem dX11_measures_2 : decode cX11_measures 2 = .ok (.iload_n 2, 1) := by decide +kernel
theorem dX11_measures_3 : decode cX11_measures 3 = .ok (.bipush 108, 2) := by decide +kernel
theorem dX11_measures_5 : decode cX11_measures 5 = .ok (.if_icmp .ge 39, 3) := by decide +kernel
theorem dX11_measures_8 : decode cX11_measures 8 = .ok (.aload_n 0, 1) := by decide +kernel
theorem dX11_measures_9 : decode cX11_measures 9 = .ok (.getfield 22, 3) := by decide +kernel
theorem dX11_measures_12 : decode cX11_measures 12 = .ok (.bipush 108, 2) := by decide +kernel
theorem dX11_measures_14 : decode cX11_measures 14 = .ok (.iload_n 1, 1) := by decide +kernel
theorem dX11_measures_15 : decode cX11_measures 15 = .ok (.imul, 1) := by decide +kernel
theorem dX11_measures_16 : decode cX11_measures 16 = .ok (.iload_n 2, 1) := by decide +kernel
theorem dX11_measures_17 : decode cX11_measures 17 = .ok (.iadd, 1) := by decide +kernel
theorem dX11_measures_18 : decode cX11_measures 18 = .ok (.iload_n 2, 1) := by decide +kernel
theorem dX11_measures_19 : decode cX11_measures 19 = .ok (.iload_n 1, 1) := by decide +kernel
theorem dX11_measures_20 : decode cX11_measures 20 = .ok (.if_icmp .ne 15, 3) := by decide +kernel
theorem dX11_measures_23 : decode cX11_measures 23 = .ok (.aload_n 0, 1) := by decide +kernel
theorem dX11_measures_24 : decode cX11_measures 24 = .ok (.iload_n 2, 1) := by decide +kernel
theorem dX11_measures_25 : decode cX11_measures 25 = .ok (.invokevirtual 99, 3) := by decide +kernel
theorem dX11_measures_28 : decode cX11_measures 28 = .ok (.ifCond .ne 7, 3) := by decide +kernel
theorem dX11_measures_31 : decode cX11_measures 31 = .ok (.iconst 0, 1) := by decide +kernel
theorem dX11_measures_32 : decode cX11_measures 32 = .ok (.goto 5, 3) := by decide +kernel
theorem dX11_measures_35 : decode cX11_measures 35 = .ok (.ldc 124, 2) := by decide +kernel
theorem dX11_measures_37 : decode cX11_measures 37 = .ok (.iastore, 1) := by decide +kernel
theorem dX11_measures_38 : decode cX11_measures 38 = .ok (.iinc 2 1, 3) := by decide +kernel
theorem dX11_measures_41 : decode cX11_measures 41 = .ok (.goto (-39), 3) := by decide +kernel
theorem dX11_measures_44 : decode cX11_measures 44 = .ok (.iconst 1, 1) := by decide +kernel
theorem dX11_measures_45 : decode cX11_measures 45 = .ok (.istore_n 2, 1) := by decide +kernel
theorem dX11_measures_46 : decode cX11_measures 46 = .ok (.iload_n 2, 1) := by decide +kernel
theorem dX11_measures_47 : decode cX11_measures 47 = .ok (.ifCond .eq 118, 3) := by decide +kernel
theorem dX11_measures_50 : decode cX11_measures 50 = .ok (.iconst 0, 1) := by decide +kernel
theorem dX11_measures_51 : decode cX11_measures 51 = .ok (.istore_n 2, 1) := by decide +kernel
theorem dX11_measures_52 : decode cX11_measures 52 = .ok (.iconst 0, 1) := by decide +kernel
theorem dX11_measures_53 : decode cX11_measures 53 = .ok (.istore_n 3, 1) := by decide +kernel
theorem dX11_measures_54 : decode cX11_measures 54 = .ok (.iload_n 3, 1) := by decide +kernel
theorem dX11_measures_55 : decode cX11_measures 55 = .ok (.bipush 108, 2) := by decide +kernel
theorem dX11_measures_57 : decode cX11_measures 57 = .ok (.if_icmp .ge 105, 3) := by decide +kernel
theorem dX11_measures_60 : decode cX11_measures 60 = .ok (.iconst 1, 1) := by decide +kernel
theorem dX11_measures_61 : decode cX11_measures 61 = .ok (.istore 4, 2) := by decide +kernel
theorem dX11_measures_63 : decode cX11_measures 63 = .ok (.iload 4, 2) := by decide +kernel
theorem dX11_measures_65 : decode cX11_measures 65 = .ok (.bipush 7, 2) := by decide +kernel
theorem dX11_measures_67 : decode cX11_measures 67 = .ok (.if_icmp .ge 89, 3) := by decide +kernel
theorem dX11_measures_70 : decode cX11_measures 70 = .ok (.aload_n 0, 1) := by decide +kernel
theorem dX11_measures_71 : decode cX11_measures 71 = .ok (.iload_n 3, 1) := by decide +kernel
theorem dX11_measures_72 : decode cX11_measures 72 = .ok (.invokevirtual 99, 3) := by decide +kernel
theorem dX11_measures_75 : decode cX11_measures 75 = .ok (.ifCond .ne 81, 3) := by decide +kernel
theorem dX11_measures_78 : decode cX11_measures 78 = .ok (.aload_n 0, 1) := by decide +kernel
theorem dX11_measures_79 : decode cX11_measures 79 = .ok (.iload_n 3, 1) := by decide +kernel
theorem dX11_measures_80 : decode cX11_measures 80 = .ok (.iload 4, 2) := by decide +kernel
theorem dX11_measures_82 : decode cX11_measures 82 = .ok (.invokevirtual 125, 3) := by decide +kernel
theorem dX11_measures_85 : decode cX11_measures 85 = .ok (.istore 5, 2) := by decide +kernel
theorem dX11_measures_87 : decode cX11_measures 87 = .ok (.iload 5, 2) := by decide +kernel
theorem dX11_measures_89 : decode cX11_measures 89 = .ok (.ifCond .ge 8, 3) := by decide +kernel
theorem dX11_measures_92 : decode cX11_measures 92 = .ok (.ldc 124, 2) := by decide +kernel
theorem dX11_measures_94 : decode cX11_measures 94 = .ok (.goto 23, 3) := by decide +kernel
theorem dX11_measures_97 : decode cX11_measures 97 = .ok (.aload_n 0, 1) := by decide +kernel
theorem dX11_measures_98 : decode cX11_measures 98 = .ok (.iload_n 3, 1) := by decide +kernel
theorem dX11_measures_99 : decode cX11_measures 99 = .ok (.iload 4, 2) := by decide +kernel
theorem dX11_measures_101 : decode cX11_measures 101 = .ok (.invokevirtual 129, 3) := by decide +kernel
theorem dX11_measures_104 : decode cX11_measures 104 = .ok (.aload_n 0, 1) := by decide +kernel
theorem dX11_measures_105 : decode cX11_measures 105 = .ok (.getfield 22, 3) := by decide +kernel
theorem dX11_measures_108 : decode cX11_measures 108 = .ok (.bipush 108, 2) := by decide +kernel
theorem dX11_measures_110 : decode cX11_measures 110 = .ok (.iload_n 1, 1) := by decide +kernel
theorem dX11_measures_111 : decode cX11_measures 111 = .ok (.imul, 1) := by decide +kernel
theorem dX11_measures_112 : decode cX11_measures 112 = .ok (.iload 5, 2) := by decide +kernel
theorem dX11_measures_114 : decode cX11_measures 114 = .ok (.iadd, 1) := by decide +kernel
theorem dX11_measures_115 : decode cX11_measures 115 = .ok (.iaload, 1) := by decide +kernel
theorem dX11_measures_116 : decode cX11_measures 116 = .ok (.iadd, 1) := by decide +kernel
theorem dX11_measures_117 : decode cX11_measures 117 = .ok (.istore 6, 2) := by decide +kernel
theorem dX11_measures_119 : decode cX11_measures 119 = .ok (.iload 6, 2) := by decide +kernel
theorem dX11_measures_121 : decode cX11_measures 121 = .ok (.aload_n 0, 1) := by decide +kernel
theorem dX11_measures_122 : decode cX11_measures 122 = .ok (.getfield 22, 3) := by decide +kernel
theorem dX11_measures_125 : decode cX11_measures 125 = .ok (.bipush 108, 2) := by decide +kernel
theorem dX11_measures_127 : decode cX11_measures 127 = .ok (.iload_n 1, 1) := by decide +kernel
theorem dX11_measures_128 : decode cX11_measures 128 = .ok (.imul, 1) := by decide +kernel
theorem dX11_measures_129 : decode cX11_measures 129 = .ok (.iload_n 3, 1) := by decide +kernel
theorem dX11_measures_130 : decode cX11_measures 130 = .ok (.iadd, 1) := by decide +kernel
theorem dX11_measures_131 : decode cX11_measures 131 = .ok (.iaload, 1) := by decide +kernel
theorem dX11_measures_132 : decode cX11_measures 132 = .ok (.if_icmp .ge 18, 3) := by decide +kernel
theorem dX11_measures_135 : decode cX11_measures 135 = .ok (.aload_n 0, 1) := by decide +kernel
theorem dX11_measures_136 : decode cX11_measures 136 = .ok (.getfield 22, 3) := by decide +kernel
theorem dX11_measures_139 : decode cX11_measures 139 = .ok (.bipush 108, 2) := by decide +kernel
theorem dX11_measures_141 : decode cX11_measures 141 = .ok (.iload_n 1, 1) := by decide +kernel
theorem dX11_measures_142 : decode cX11_measures 142 = .ok (.imul, 1) := by decide +kernel
theorem dX11_measures_143 : decode cX11_measures 143 = .ok (.iload_n 3, 1) := by decide +kernel
theorem dX11_measures_144 : decode cX11_measures 144 = .ok (.iadd, 1) := by decide +kernel
theorem dX11_measures_145 : decode cX11_measures 145 = .ok (.iload 6, 2) := by decide +kernel
theorem dX11_measures_147 : decode cX11_measures 147 = .ok (.iastore, 1) := by decide +kernel
theorem dX11_measures_148 : decode cX11_measures 148 = .ok (.iconst 1, 1) := by decide +kernel
theorem dX11_measures_149 : decode cX11_measures 149 = .ok (.istore_n 2, 1) := by decide +kernel
theorem dX11_measures_150 : decode cX11_measures 150 = .ok (.iinc 4 1, 3) := by decide +kernel
theorem dX11_measures_153 : decode cX11_measures 153 = .ok (.goto (-90), 3) := by decide +kernel
theorem dX11_measures_156 : decode cX11_measures 156 = .ok (.iinc 3 1, 3) := by decide +kernel
theorem dX11_measures_159 : decode cX11_measures 159 = .ok (.goto (-105), 3) := by decide +kernel
theorem dX11_measures_162 : decode cX11_measures 162 = .ok (.goto (-116), 3) := by decide +kernel
theorem dX11_measures_165 : decode cX11_measures 165 = .ok (.aload_n 0, 1) := by decide +kernel
theorem dX11_measures_166 : decode cX11_measures 166 = .ok (.getfield 25, 3) := by decide +kernel
theorem dX11_measures_169 : decode cX11_measures 169 = .ok (.iload_n 1, 1) := by decide +kernel
theorem dX11_measures_170 : decode cX11_measures 170 = .ok (.iconst 1, 1) := by decide +kernel
theorem dX11_measures_171 : decode cX11_measures 171 = .ok (.bastore, 1) := by decide +kernel
theorem dX11_measures_172 : decode cX11_measures 172 = .ok (.return_, 1) := by decide +kernel
theorem dX11_time_0 : decode cX11_time 0 = .ok (.aload_n 0, 1) := by decide +kernel
theorem dX11_time_1 : decode cX11_time 1 = .ok (.getfield 25, 3) := by decide +kernel
theorem dX11_time_4 : decode cX11_time 4 = .ok (.iload_n 2, 1) := by decide +kernel
theorem dX11_time_5 : decode cX11_time 5 = .ok (.baload, 1) := by decide +kernel
theorem dX11_time_6 : decode cX11_time 6 = .ok (.ifCond .ne 8, 3) := by decide +kernel
theorem dX11_time_9 : decode cX11_time 9 = .ok (.aload_n 0, 1) := by decide +kernel
theorem dX11_time_10 : decode cX11_time 10 = .ok (.iload_n 2, 1) := by decide +kernel
theorem dX11_time_11 : decode cX11_time 11 = .ok (.invokevirtual 132, 3) := by decide +kernel
theorem dX11_time_14 : decode cX11_time 14 = .ok (.aload_n 0, 1) := by decide +kernel
theorem dX11_time_15 : decode cX11_time 15 = .ok (.getfield 22, 3) := by decide +kernel
theorem dX11_time_18 : decode cX11_time 18 = .ok (.bipush 108, 2) := by decide +kernel
theorem dX11_time_20 : decode cX11_time 20 = .ok (.iload_n 2, 1) := by decide +kernel
theorem dX11_time_21 : decode cX11_time 21 = .ok (.imul, 1) := by decide +kernel
theorem dX11_time_22 : decode cX11_time 22 = .ok (.iload_n 1, 1) := by decide +kernel
theorem dX11_time_23 : decode cX11_time 23 = .ok (.iadd, 1) := by decide +kernel
theorem dX11_time_24 : decode cX11_time 24 = .ok (.iaload, 1) := by decide +kernel
theorem dX11_time_25 : decode cX11_time 25 = .ok (.ireturn, 1) := by decide +kernel
theorem dX11_flightTime_0 : decode cX11_flightTime 0 = .ok (.iload_n 1, 1) := by decide +kernel
theorem dX11_flightTime_1 : decode cX11_flightTime 1 = .ok (.invokestatic 88, 3) := by decide +kernel
theorem dX11_flightTime_4 : decode cX11_flightTime 4 = .ok (.ifCond .eq 10, 3) := by decide +kernel
theorem dX11_flightTime_7 : decode cX11_flightTime 7 = .ok (.iload_n 2, 1) := by decide +kernel
theorem dX11_flightTime_8 : decode cX11_flightTime 8 = .ok (.invokestatic 88, 3) := by decide +kernel
theorem dX11_flightTime_11 : decode cX11_flightTime 11 = .ok (.ifCond .ne 6, 3) := by decide +kernel
theorem dX11_flightTime_14 : decode cX11_flightTime 14 = .ok (.bipush (-2), 2) := by decide +kernel
theorem dX11_flightTime_16 : decode cX11_flightTime 16 = .ok (.ireturn, 1) := by decide +kernel
theorem dX11_flightTime_17 : decode cX11_flightTime 17 = .ok (.aload_n 0, 1) := by decide +kernel
theorem dX11_flightTime_18 : decode cX11_flightTime 18 = .ok (.iload_n 1, 1) := by decide +kernel
theorem dX11_flightTime_19 : decode cX11_flightTime 19 = .ok (.iload_n 2, 1) := by decide +kernel
theorem dX11_flightTime_20 : decode cX11_flightTime 20 = .ok (.invokevirtual 136, 3) := by decide +kernel
theorem dX11_flightTime_23 : decode cX11_flightTime 23 = .ok (.ldc 124, 2) := by decide +kernel
theorem dX11_flightTime_25 : decode cX11_flightTime 25 = .ok (.if_icmp .ge 12, 3) := by decide +kernel
theorem dX11_flightTime_28 : decode cX11_flightTime 28 = .ok (.aload_n 0, 1) := by decide +kernel
theorem dX11_flightTime_29 : decode cX11_flightTime 29 = .ok (.iload_n 1, 1) := by decide +kernel
theorem dX11_flightTime_30 : decode cX11_flightTime 30 = .ok (.iload_n 2, 1) := by decide +kernel
theorem dX11_flightTime_31 : decode cX11_flightTime 31 = .ok (.invokevirtual 136, 3) := by decide +kernel
theorem dX11_flightTime_34 : decode cX11_flightTime 34 = .ok (.goto 4, 3) := by decide +kernel
theorem dX11_flightTime_37 : decode cX11_flightTime 37 = .ok (.iconst (-1), 1) := by decide +kernel
theorem dX11_flightTime_38 : decode cX11_flightTime 38 = .ok (.ireturn, 1) := by decide +kernel
theorem dX11_firstAction_0 : decode cX11_firstAction 0 = .ok (.iconst 1, 1) := by decide +kernel
theorem dX11_firstAction_1 : decode cX11_firstAction 1 = .ok (.istore_n 3, 1) := by decide +kernel
theorem dX11_firstAction_2 : decode cX11_firstAction 2 = .ok (.iload_n 3, 1) := by decide +kernel
theorem dX11_firstAction_3 : decode cX11_firstAction 3 = .ok (.bipush 7, 2) := by decide +kernel
theorem dX11_firstAction_5 : decode cX11_firstAction 5 = .ok (.if_icmp .ge 52, 3) := by decide +kernel
theorem dX11_firstAction_8 : decode cX11_firstAction 8 = .ok (.iload_n 1, 1) := by decide +kernel
theorem dX11_firstAction_9 : decode cX11_firstAction 9 = .ok (.iload_n 2, 1) := by decide +kernel
theorem dX11_firstAction_10 : decode cX11_firstAction 10 = .ok (.if_icmp .eq 47, 3) := by decide +kernel
theorem dX11_firstAction_13 : decode cX11_firstAction 13 = .ok (.aload_n 0, 1) := by decide +kernel
theorem dX11_firstAction_14 : decode cX11_firstAction 14 = .ok (.iload_n 1, 1) := by decide +kernel
theorem dX11_firstAction_15 : decode cX11_firstAction 15 = .ok (.iload_n 3, 1) := by decide +kernel
theorem dX11_firstAction_16 : decode cX11_firstAction 16 = .ok (.invokevirtual 125, 3) := by decide +kernel
theorem dX11_firstAction_19 : decode cX11_firstAction 19 = .ok (.istore 4, 2) := by decide +kernel
theorem dX11_firstAction_21 : decode cX11_firstAction 21 = .ok (.iload 4, 2) := by decide +kernel
theorem dX11_firstAction_23 : decode cX11_firstAction 23 = .ok (.ifCond .lt 28, 3) := by decide +kernel
theorem dX11_firstAction_26 : decode cX11_firstAction 26 = .ok (.aload_n 0, 1) := by decide +kernel
theorem dX11_firstAction_27 : decode cX11_firstAction 27 = .ok (.iload_n 1, 1) := by decide +kernel
theorem dX11_firstAction_28 : decode cX11_firstAction 28 = .ok (.iload_n 3, 1) := by decide +kernel
theorem dX11_firstAction_29 : decode cX11_firstAction 29 = .ok (.invokevirtual 129, 3) := by decide +kernel
theorem dX11_firstAction_32 : decode cX11_firstAction 32 = .ok (.aload_n 0, 1) := by decide +kernel
theorem dX11_firstAction_33 : decode cX11_firstAction 33 = .ok (.iload 4, 2) := by decide +kernel
theorem dX11_firstAction_35 : decode cX11_firstAction 35 = .ok (.iload_n 2, 1) := by decide +kernel
theorem dX11_firstAction_36 : decode cX11_firstAction 36 = .ok (.invokevirtual 136, 3) := by decide +kernel
theorem dX11_firstAction_39 : decode cX11_firstAction 39 = .ok (.iadd, 1) := by decide +kernel
theorem dX11_firstAction_40 : decode cX11_firstAction 40 = .ok (.aload_n 0, 1) := by decide +kernel
theorem dX11_firstAction_41 : decode cX11_firstAction 41 = .ok (.iload_n 1, 1) := by decide +kernel
theorem dX11_firstAction_42 : decode cX11_firstAction 42 = .ok (.iload_n 2, 1) := by decide +kernel
theorem dX11_firstAction_43 : decode cX11_firstAction 43 = .ok (.invokevirtual 136, 3) := by decide +kernel
theorem dX11_firstAction_46 : decode cX11_firstAction 46 = .ok (.if_icmp .ne 5, 3) := by decide +kernel
theorem dX11_firstAction_49 : decode cX11_firstAction 49 = .ok (.iload_n 3, 1) := by decide +kernel
theorem dX11_firstAction_50 : decode cX11_firstAction 50 = .ok (.ireturn, 1) := by decide +kernel
theorem dX11_firstAction_51 : decode cX11_firstAction 51 = .ok (.iinc 3 1, 3) := by decide +kernel
theorem dX11_firstAction_54 : decode cX11_firstAction 54 = .ok (.goto (-52), 3) := by decide +kernel
theorem dX11_firstAction_57 : decode cX11_firstAction 57 = .ok (.iconst 0, 1) := by decide +kernel
theorem dX11_firstAction_58 : decode cX11_firstAction 58 = .ok (.ireturn, 1) := by decide +kernel
theorem dX11_tries_0 : decode cX11_tries 0 = .ok (.iload_n 1, 1) := by decide +kernel
theorem dX11_tries_1 : decode cX11_tries 1 = .ok (.aload_n 0, 1) := by decide +kernel
theorem dX11_tries_2 : decode cX11_tries 2 = .ok (.getfield 9, 3) := by decide +kernel
theorem dX11_tries_5 : decode cX11_tries 5 = .ok (.bipush 111, 2) := by decide +kernel
theorem dX11_tries_7 : decode cX11_tries 7 = .ok (.iaload, 1) := by decide +kernel
theorem dX11_tries_8 : decode cX11_tries 8 = .ok (.if_icmp .ne 150, 3) := by decide +kernel
theorem dX11_tries_11 : decode cX11_tries 11 = .ok (.aload_n 0, 1) := by decide +kernel
theorem dX11_tries_12 : decode cX11_tries 12 = .ok (.dup, 1) := by decide +kernel
theorem dX11_tries_13 : decode cX11_tries 13 = .ok (.getfield 139, 3) := by decide +kernel
theorem dX11_tries_16 : decode cX11_tries 16 = .ok (.iconst 1, 1) := by decide +kernel
theorem dX11_tries_17 : decode cX11_tries 17 = .ok (.iadd, 1) := by decide +kernel
theorem dX11_tries_18 : decode cX11_tries 18 = .ok (.putfield 139, 3) := by decide +kernel
theorem dX11_tries_21 : decode cX11_tries 21 = .ok (.aload_n 0, 1) := by decide +kernel
theorem dX11_tries_22 : decode cX11_tries 22 = .ok (.getfield 139, 3) := by decide +kernel
theorem dX11_tries_25 : decode cX11_tries 25 = .ok (.iconst 1, 1) := by decide +kernel
theorem dX11_tries_26 : decode cX11_tries 26 = .ok (.if_icmp .eq 28, 3) := by decide +kernel
theorem dX11_tries_29 : decode cX11_tries 29 = .ok (.iload_n 3, 1) := by decide +kernel
theorem dX11_tries_30 : decode cX11_tries 30 = .ok (.aload_n 0, 1) := by decide +kernel
theorem dX11_tries_31 : decode cX11_tries 31 = .ok (.getfield 142, 3) := by decide +kernel
theorem dX11_tries_34 : decode cX11_tries 34 = .ok (.if_icmp .lt 20, 3) := by decide +kernel
theorem dX11_tries_37 : decode cX11_tries 37 = .ok (.iload_n 3, 1) := by decide +kernel
theorem dX11_tries_38 : decode cX11_tries 38 = .ok (.aload_n 0, 1) := by decide +kernel
theorem dX11_tries_39 : decode cX11_tries 39 = .ok (.getfield 142, 3) := by decide +kernel
theorem dX11_tries_42 : decode cX11_tries 42 = .ok (.if_icmp .ne 16, 3) := by decide +kernel
theorem dX11_tries_45 : decode cX11_tries 45 = .ok (.iload 4, 2) := by decide +kernel
theorem dX11_tries_47 : decode cX11_tries 47 = .ok (.aload_n 0, 1) := by decide +kernel
theorem dX11_tries_48 : decode cX11_tries 48 = .ok (.getfield 145, 3) := by decide +kernel
theorem dX11_tries_51 : decode cX11_tries 51 = .ok (.if_icmp .ge 7, 3) := by decide +kernel
theorem dX11_tries_54 : decode cX11_tries 54 = .ok (.iconst 1, 1) := by decide +kernel
theorem dX11_tries_55 : decode cX11_tries 55 = .ok (.goto 4, 3) := by decide +kernel
theorem dX11_tries_58 : decode cX11_tries 58 = .ok (.iconst 0, 1) := by decide +kernel
theorem dX11_tries_59 : decode cX11_tries 59 = .ok (.istore 5, 2) := by decide +kernel
theorem dX11_tries_61 : decode cX11_tries 61 = .ok (.aload_n 0, 1) := by decide +kernel
theorem dX11_tries_62 : decode cX11_tries 62 = .ok (.aload_n 0, 1) := by decide +kernel
theorem dX11_tries_63 : decode cX11_tries 63 = .ok (.getfield 139, 3) := by decide +kernel
theorem dX11_tries_66 : decode cX11_tries 66 = .ok (.iconst 1, 1) := by decide +kernel
theorem dX11_tries_67 : decode cX11_tries 67 = .ok (.if_icmp .eq 11, 3) := by decide +kernel
theorem dX11_tries_70 : decode cX11_tries 70 = .ok (.iload_n 3, 1) := by decide +kernel
theorem dX11_tries_71 : decode cX11_tries 71 = .ok (.aload_n 0, 1) := by decide +kernel
theorem dX11_tries_72 : decode cX11_tries 72 = .ok (.getfield 142, 3) := by decide +kernel
theorem dX11_tries_75 : decode cX11_tries 75 = .ok (.if_icmp .ge 7, 3) := by decide +kernel
theorem dX11_tries_78 : decode cX11_tries 78 = .ok (.iconst 1, 1) := by decide +kernel
theorem dX11_tries_79 : decode cX11_tries 79 = .ok (.goto 24, 3) := by decide +kernel
theorem dX11_tries_82 : decode cX11_tries 82 = .ok (.iload_n 3, 1) := by decide +kernel
theorem dX11_tries_83 : decode cX11_tries 83 = .ok (.aload_n 0, 1) := by decide +kernel
theorem dX11_tries_84 : decode cX11_tries 84 = .ok (.getfield 142, 3) := by decide +kernel
theorem dX11_tries_87 : decode cX11_tries 87 = .ok (.if_icmp .ne 12, 3) := by decide +kernel
theorem dX11_tries_90 : decode cX11_tries 90 = .ok (.aload_n 0, 1) := by decide +kernel
theorem dX11_tries_91 : decode cX11_tries 91 = .ok (.getfield 148, 3) := by decide +kernel
theorem dX11_tries_94 : decode cX11_tries 94 = .ok (.iconst 1, 1) := by decide +kernel
theorem dX11_tries_95 : decode cX11_tries 95 = .ok (.iadd, 1) := by decide +kernel
theorem dX11_tries_96 : decode cX11_tries 96 = .ok (.goto 7, 3) := by decide +kernel
theorem dX11_tries_99 : decode cX11_tries 99 = .ok (.aload_n 0, 1) := by decide +kernel
theorem dX11_tries_100 : decode cX11_tries 100 = .ok (.getfield 148, 3) := by decide +kernel
theorem dX11_tries_103 : decode cX11_tries 103 = .ok (.putfield 148, 3) := by decide +kernel
theorem dX11_tries_106 : decode cX11_tries 106 = .ok (.iload 5, 2) := by decide +kernel
theorem dX11_tries_108 : decode cX11_tries 108 = .ok (.ifCond .eq 49, 3) := by decide +kernel
theorem dX11_tries_111 : decode cX11_tries 111 = .ok (.aload_n 0, 1) := by decide +kernel
theorem dX11_tries_112 : decode cX11_tries 112 = .ok (.iload_n 3, 1) := by decide +kernel
theorem dX11_tries_113 : decode cX11_tries 113 = .ok (.putfield 142, 3) := by decide +kernel
theorem dX11_tries_116 : decode cX11_tries 116 = .ok (.aload_n 0, 1) := by decide +kernel
theorem dX11_tries_117 : decode cX11_tries 117 = .ok (.iload 4, 2) := by decide +kernel
theorem dX11_tries_119 : decode cX11_tries 119 = .ok (.putfield 145, 3) := by decide +kernel
theorem dX11_tries_122 : decode cX11_tries 122 = .ok (.iconst 0, 1) := by decide +kernel
theorem dX11_tries_123 : decode cX11_tries 123 = .ok (.istore 6, 2) := by decide +kernel
theorem dX11_tries_125 : decode cX11_tries 125 = .ok (.iload 6, 2) := by decide +kernel
theorem dX11_tries_127 : decode cX11_tries 127 = .ok (.aload_n 0, 1) := by decide +kernel
theorem dX11_tries_128 : decode cX11_tries 128 = .ok (.getfield 9, 3) := by decide +kernel
theorem dX11_tries_131 : decode cX11_tries 131 = .ok (.bipush 111, 2) := by decide +kernel
theorem dX11_tries_133 : decode cX11_tries 133 = .ok (.iaload, 1) := by decide +kernel
theorem dX11_tries_134 : decode cX11_tries 134 = .ok (.if_icmp .ge 23, 3) := by decide +kernel
theorem dX11_tries_137 : decode cX11_tries 137 = .ok (.aload_n 0, 1) := by decide +kernel
theorem dX11_tries_138 : decode cX11_tries 138 = .ok (.getfield 32, 3) := by decide +kernel
theorem dX11_tries_141 : decode cX11_tries 141 = .ok (.iload 6, 2) := by decide +kernel
theorem dX11_tries_143 : decode cX11_tries 143 = .ok (.aload_n 0, 1) := by decide +kernel
theorem dX11_tries_144 : decode cX11_tries 144 = .ok (.getfield 29, 3) := by decide +kernel
theorem dX11_tries_147 : decode cX11_tries 147 = .ok (.iload 6, 2) := by decide +kernel
theorem dX11_tries_149 : decode cX11_tries 149 = .ok (.iaload, 1) := by decide +kernel
theorem dX11_tries_150 : decode cX11_tries 150 = .ok (.iastore, 1) := by decide +kernel
theorem dX11_tries_151 : decode cX11_tries 151 = .ok (.iinc 6 1, 3) := by decide +kernel
theorem dX11_tries_154 : decode cX11_tries 154 = .ok (.goto (-29), 3) := by decide +kernel
theorem dX11_tries_157 : decode cX11_tries 157 = .ok (.return_, 1) := by decide +kernel
theorem dX11_tries_158 : decode cX11_tries 158 = .ok (.iconst 0, 1) := by decide +kernel
theorem dX11_tries_159 : decode cX11_tries 159 = .ok (.istore 5, 2) := by decide +kernel
theorem dX11_tries_161 : decode cX11_tries 161 = .ok (.iload 5, 2) := by decide +kernel
theorem dX11_tries_163 : decode cX11_tries 163 = .ok (.aload_n 0, 1) := by decide +kernel
theorem dX11_tries_164 : decode cX11_tries 164 = .ok (.getfield 9, 3) := by decide +kernel
theorem dX11_tries_167 : decode cX11_tries 167 = .ok (.bipush 118, 2) := by decide +kernel
theorem dX11_tries_169 : decode cX11_tries 169 = .ok (.iaload, 1) := by decide +kernel
theorem dX11_tries_170 : decode cX11_tries 170 = .ok (.if_icmp .ge 82, 3) := by decide +kernel
theorem dX11_tries_173 : decode cX11_tries 173 = .ok (.aload_n 0, 1) := by decide +kernel
theorem dX11_tries_174 : decode cX11_tries 174 = .ok (.aload_n 0, 1) := by decide +kernel
theorem dX11_tries_175 : decode cX11_tries 175 = .ok (.getfield 9, 3) := by decide +kernel
theorem dX11_tries_178 : decode cX11_tries 178 = .ok (.bipush 112, 2) := by decide +kernel
theorem dX11_tries_180 : decode cX11_tries 180 = .ok (.iload_n 1, 1) := by decide +kernel
theorem dX11_tries_181 : decode cX11_tries 181 = .ok (.iadd, 1) := by decide +kernel
theorem dX11_tries_182 : decode cX11_tries 182 = .ok (.iaload, 1) := by decide +kernel
theorem dX11_tries_183 : decode cX11_tries 183 = .ok (.aload_n 0, 1) := by decide +kernel
theorem dX11_tries_184 : decode cX11_tries 184 = .ok (.getfield 9, 3) := by decide +kernel
theorem dX11_tries_187 : decode cX11_tries 187 = .ok (.bipush 119, 2) := by decide +kernel
theorem dX11_tries_189 : decode cX11_tries 189 = .ok (.iload 5, 2) := by decide +kernel
theorem dX11_tries_191 : decode cX11_tries 191 = .ok (.iadd, 1) := by decide +kernel
theorem dX11_tries_192 : decode cX11_tries 192 = .ok (.iaload, 1) := by decide +kernel
theorem dX11_tries_193 : decode cX11_tries 193 = .ok (.invokevirtual 136, 3) := by decide +kernel
theorem dX11_tries_196 : decode cX11_tries 196 = .ok (.istore 6, 2) := by decide +kernel
theorem dX11_tries_198 : decode cX11_tries 198 = .ok (.iload_n 2, 1) := by decide +kernel
theorem dX11_tries_199 : decode cX11_tries 199 = .ok (.iload 5, 2) := by decide +kernel
theorem dX11_tries_201 : decode cX11_tries 201 = .ok (.ishr, 1) := by decide +kernel
theorem dX11_tries_202 : decode cX11_tries 202 = .ok (.iconst 1, 1) := by decide +kernel
theorem dX11_tries_203 : decode cX11_tries 203 = .ok (.iand, 1) := by decide +kernel
theorem dX11_tries_204 : decode cX11_tries 204 = .ok (.ifCond .ne 42, 3) := by decide +kernel
theorem dX11_tries_207 : decode cX11_tries 207 = .ok (.iload 6, 2) := by decide +kernel
theorem dX11_tries_209 : decode cX11_tries 209 = .ok (.ldc 124, 2) := by decide +kernel
theorem dX11_tries_211 : decode cX11_tries 211 = .ok (.if_icmp .ge 35, 3) := by decide +kernel
theorem dX11_tries_214 : decode cX11_tries 214 = .ok (.aload_n 0, 1) := by decide +kernel
theorem dX11_tries_215 : decode cX11_tries 215 = .ok (.getfield 29, 3) := by decide +kernel
theorem dX11_tries_218 : decode cX11_tries 218 = .ok (.iload_n 1, 1) := by decide +kernel
theorem dX11_tries_219 : decode cX11_tries 219 = .ok (.iload 5, 2) := by decide +kernel
theorem dX11_tries_221 : decode cX11_tries 221 = .ok (.iastore, 1) := by decide +kernel
theorem dX11_tries_222 : decode cX11_tries 222 = .ok (.aload_n 0, 1) := by decide +kernel
theorem dX11_tries_223 : decode cX11_tries 223 = .ok (.iload_n 1, 1) := by decide +kernel
theorem dX11_tries_224 : decode cX11_tries 224 = .ok (.iconst 1, 1) := by decide +kernel
theorem dX11_tries_225 : decode cX11_tries 225 = .ok (.iadd, 1) := by decide +kernel
theorem dX11_tries_226 : decode cX11_tries 226 = .ok (.iload_n 2, 1) := by decide +kernel
theorem dX11_tries_227 : decode cX11_tries 227 = .ok (.iconst 1, 1) := by decide +kernel
theorem dX11_tries_228 : decode cX11_tries 228 = .ok (.iload 5, 2) := by decide +kernel
theorem dX11_tries_230 : decode cX11_tries 230 = .ok (.ishl, 1) := by decide +kernel
theorem dX11_tries_231 : decode cX11_tries 231 = .ok (.ior, 1) := by decide +kernel
theorem dX11_tries_232 : decode cX11_tries 232 = .ok (.iload_n 3, 1) := by decide +kernel
theorem dX11_tries_233 : decode cX11_tries 233 = .ok (.iload 6, 2) := by decide +kernel
theorem dX11_tries_235 : decode cX11_tries 235 = .ok (.invokestatic 151, 3) := by decide +kernel
theorem dX11_tries_238 : decode cX11_tries 238 = .ok (.iload 4, 2) := by decide +kernel
theorem dX11_tries_240 : decode cX11_tries 240 = .ok (.iload 6, 2) := by decide +kernel
theorem dX11_tries_242 : decode cX11_tries 242 = .ok (.iadd, 1) := by decide +kernel
theorem dX11_tries_243 : decode cX11_tries 243 = .ok (.invokevirtual 156, 3) := by decide +kernel
theorem dX11_tries_246 : decode cX11_tries 246 = .ok (.iinc 5 1, 3) := by decide +kernel
theorem dX11_tries_249 : decode cX11_tries 249 = .ok (.goto (-88), 3) := by decide +kernel
theorem dX11_tries_252 : decode cX11_tries 252 = .ok (.return_, 1) := by decide +kernel
theorem dX11_assigns_0 : decode cX11_assigns 0 = .ok (.aload_n 0, 1) := by decide +kernel
theorem dX11_assigns_1 : decode cX11_assigns 1 = .ok (.getfield 9, 3) := by decide +kernel
theorem dX11_assigns_4 : decode cX11_assigns 4 = .ok (.bipush 111, 2) := by decide +kernel
theorem dX11_assigns_6 : decode cX11_assigns 6 = .ok (.iaload, 1) := by decide +kernel
theorem dX11_assigns_7 : decode cX11_assigns 7 = .ok (.aload_n 0, 1) := by decide +kernel
theorem dX11_assigns_8 : decode cX11_assigns 8 = .ok (.getfield 9, 3) := by decide +kernel
theorem dX11_assigns_11 : decode cX11_assigns 11 = .ok (.bipush 118, 2) := by decide +kernel
theorem dX11_assigns_13 : decode cX11_assigns 13 = .ok (.iaload, 1) := by decide +kernel
theorem dX11_assigns_14 : decode cX11_assigns 14 = .ok (.if_icmp .eq 6, 3) := by decide +kernel
theorem dX11_assigns_17 : decode cX11_assigns 17 = .ok (.bipush (-5), 2) := by decide +kernel
theorem dX11_assigns_19 : decode cX11_assigns 19 = .ok (.ireturn, 1) := by decide +kernel
theorem dX11_assigns_20 : decode cX11_assigns 20 = .ok (.aload_n 0, 1) := by decide +kernel
theorem dX11_assigns_21 : decode cX11_assigns 21 = .ok (.iconst 0, 1) := by decide +kernel
theorem dX11_assigns_22 : decode cX11_assigns 22 = .ok (.putfield 139, 3) := by decide +kernel
theorem dX11_assigns_25 : decode cX11_assigns 25 = .ok (.aload_n 0, 1) := by decide +kernel
theorem dX11_assigns_26 : decode cX11_assigns 26 = .ok (.iconst 0, 1) := by decide +kernel
theorem dX11_assigns_27 : decode cX11_assigns 27 = .ok (.iconst 0, 1) := by decide +kernel
theorem dX11_assigns_28 : decode cX11_assigns 28 = .ok (.iconst 0, 1) := by decide +kernel
theorem dX11_assigns_29 : decode cX11_assigns 29 = .ok (.iconst 0, 1) := by decide +kernel
theorem dX11_assigns_30 : decode cX11_assigns 30 = .ok (.invokevirtual 156, 3) := by decide +kernel
theorem dX11_assigns_33 : decode cX11_assigns 33 = .ok (.aload_n 0, 1) := by decide +kernel
theorem dX11_assigns_34 : decode cX11_assigns 34 = .ok (.getfield 139, 3) := by decide +kernel
theorem dX11_assigns_37 : decode cX11_assigns 37 = .ok (.ifCond .ne 8, 3) := by decide +kernel
theorem dX11_assigns_40 : decode cX11_assigns 40 = .ok (.bipush (-6), 2) := by decide +kernel
theorem dX11_assigns_42 : decode cX11_assigns 42 = .ok (.goto 4, 3) := by decide +kernel
theorem dX11_assigns_45 : decode cX11_assigns 45 = .ok (.iconst 0, 1) := by decide +kernel
theorem dX11_assigns_46 : decode cX11_assigns 46 = .ok (.ireturn, 1) := by decide +kernel
theorem dX11_assigned_0 : decode cX11_assigned 0 = .ok (.aload_n 0, 1) := by decide +kernel
theorem dX11_assigned_1 : decode cX11_assigned 1 = .ok (.iload_n 1, 1) := by decide +kernel
theorem dX11_assigned_2 : decode cX11_assigned 2 = .ok (.invokevirtual 102, 3) := by decide +kernel
theorem dX11_assigned_5 : decode cX11_assigned 5 = .ok (.ifCond .ne 5, 3) := by decide +kernel
theorem dX11_assigned_8 : decode cX11_assigned 8 = .ok (.iconst (-1), 1) := by decide +kernel
theorem dX11_assigned_9 : decode cX11_assigned 9 = .ok (.ireturn, 1) := by decide +kernel
theorem dX11_assigned_10 : decode cX11_assigned 10 = .ok (.aload_n 0, 1) := by decide +kernel
theorem dX11_assigned_11 : decode cX11_assigned 11 = .ok (.invokevirtual 160, 3) := by decide +kernel
theorem dX11_assigned_14 : decode cX11_assigned 14 = .ok (.istore_n 2, 1) := by decide +kernel
theorem dX11_assigned_15 : decode cX11_assigned 15 = .ok (.iload_n 2, 1) := by decide +kernel
theorem dX11_assigned_16 : decode cX11_assigned 16 = .ok (.ifCond .eq 7, 3) := by decide +kernel
theorem dX11_assigned_19 : decode cX11_assigned 19 = .ok (.iload_n 2, 1) := by decide +kernel
theorem dX11_assigned_20 : decode cX11_assigned 20 = .ok (.goto 9, 3) := by decide +kernel
theorem dX11_assigned_23 : decode cX11_assigned 23 = .ok (.aload_n 0, 1) := by decide +kernel
theorem dX11_assigned_24 : decode cX11_assigned 24 = .ok (.getfield 32, 3) := by decide +kernel
theorem dX11_assigned_27 : decode cX11_assigned 27 = .ok (.iload_n 1, 1) := by decide +kernel
theorem dX11_assigned_28 : decode cX11_assigned 28 = .ok (.iaload, 1) := by decide +kernel
theorem dX11_assigned_29 : decode cX11_assigned 29 = .ok (.ireturn, 1) := by decide +kernel
theorem dX11_assignment_0 : decode cX11_assignment 0 = .ok (.iload_n 1, 1) := by decide +kernel
theorem dX11_assignment_1 : decode cX11_assignment 1 = .ok (.iconst 0, 1) := by decide +kernel
theorem dX11_assignment_2 : decode cX11_assignment 2 = .ok (.iconst 3, 1) := by decide +kernel
theorem dX11_assignment_3 : decode cX11_assignment 3 = .ok (.invokestatic 73, 3) := by decide +kernel
theorem dX11_assignment_6 : decode cX11_assignment 6 = .ok (.ifCond .ne 6, 3) := by decide +kernel
theorem dX11_assignment_9 : decode cX11_assignment 9 = .ok (.bipush (-2), 2) := by decide +kernel
theorem dX11_assignment_11 : decode cX11_assignment 11 = .ok (.ireturn, 1) := by decide +kernel
theorem dX11_assignment_12 : decode cX11_assignment 12 = .ok (.aload_n 0, 1) := by decide +kernel
theorem dX11_assignment_13 : decode cX11_assignment 13 = .ok (.invokevirtual 160, 3) := by decide +kernel
theorem dX11_assignment_16 : decode cX11_assignment 16 = .ok (.istore_n 2, 1) := by decide +kernel
theorem dX11_assignment_17 : decode cX11_assignment 17 = .ok (.iload_n 2, 1) := by decide +kernel
theorem dX11_assignment_18 : decode cX11_assignment 18 = .ok (.ifCond .eq 7, 3) := by decide +kernel
theorem dX11_assignment_21 : decode cX11_assignment 21 = .ok (.iload_n 2, 1) := by decide +kernel
theorem dX11_assignment_22 : decode cX11_assignment 22 = .ok (.goto 42, 3) := by decide +kernel
theorem dX11_assignment_25 : decode cX11_assignment 25 = .ok (.iload_n 1, 1) := by decide +kernel
theorem dX11_assignment_26 : decode cX11_assignment 26 = .ok (.ifCond .ne 10, 3) := by decide +kernel
theorem dX11_assignment_29 : decode cX11_assignment 29 = .ok (.aload_n 0, 1) := by decide +kernel
theorem dX11_assignment_30 : decode cX11_assignment 30 = .ok (.getfield 142, 3) := by decide +kernel
theorem dX11_assignment_33 : decode cX11_assignment 33 = .ok (.goto 31, 3) := by decide +kernel
theorem dX11_assignment_36 : decode cX11_assignment 36 = .ok (.iload_n 1, 1) := by decide +kernel
theorem dX11_assignment_37 : decode cX11_assignment 37 = .ok (.iconst 1, 1) := by decide +kernel
theorem dX11_assignment_38 : decode cX11_assignment 38 = .ok (.if_icmp .ne 10, 3) := by decide +kernel
theorem dX11_assignment_41 : decode cX11_assignment 41 = .ok (.aload_n 0, 1) := by decide +kernel
theorem dX11_assignment_42 : decode cX11_assignment 42 = .ok (.getfield 145, 3) := by decide +kernel
theorem dX11_assignment_45 : decode cX11_assignment 45 = .ok (.goto 19, 3) := by decide +kernel
theorem dX11_assignment_48 : decode cX11_assignment 48 = .ok (.iload_n 1, 1) := by decide +kernel
theorem dX11_assignment_49 : decode cX11_assignment 49 = .ok (.iconst 2, 1) := by decide +kernel
theorem dX11_assignment_50 : decode cX11_assignment 50 = .ok (.if_icmp .ne 10, 3) := by decide +kernel
theorem dX11_assignment_53 : decode cX11_assignment 53 = .ok (.aload_n 0, 1) := by decide +kernel
theorem dX11_assignment_54 : decode cX11_assignment 54 = .ok (.getfield 148, 3) := by decide +kernel
theorem dX11_assignment_57 : decode cX11_assignment 57 = .ok (.goto 7, 3) := by decide +kernel
theorem dX11_assignment_60 : decode cX11_assignment 60 = .ok (.aload_n 0, 1) := by decide +kernel
theorem dX11_assignment_61 : decode cX11_assignment 61 = .ok (.getfield 139, 3) := by decide +kernel
theorem dX11_assignment_64 : decode cX11_assignment 64 = .ok (.ireturn, 1) := by decide +kernel
theorem dX11_greatestWith_0 : decode cX11_greatestWith 0 = .ok (.iload_n 1, 1) := by decide +kernel
theorem dX11_greatestWith_1 : decode cX11_greatestWith 1 = .ok (.iconst 0, 1) := by decide +kernel
theorem dX11_greatestWith_2 : decode cX11_greatestWith 2 = .ok (.iconst 2, 1) := by decide +kernel
theorem dX11_greatestWith_3 : decode cX11_greatestWith 3 = .ok (.invokestatic 73, 3) := by decide +kernel
theorem dX11_greatestWith_6 : decode cX11_greatestWith 6 = .ok (.ifCond .eq 12, 3) := by decide +kernel
theorem dX11_greatestWith_9 : decode cX11_greatestWith 9 = .ok (.iload_n 2, 1) := by decide +kernel
theorem dX11_greatestWith_10 : decode cX11_greatestWith 10 = .ok (.iconst 0, 1) := by decide +kernel
theorem dX11_greatestWith_11 : decode cX11_greatestWith 11 = .ok (.iconst 4, 1) := by decide +kernel
theorem dX11_greatestWith_12 : decode cX11_greatestWith 12 = .ok (.invokestatic 73, 3) := by decide +kernel
theorem dX11_greatestWith_15 : decode cX11_greatestWith 15 = .ok (.ifCond .ne 6, 3) := by decide +kernel
theorem dX11_greatestWith_18 : decode cX11_greatestWith 18 = .ok (.bipush (-2), 2) := by decide +kernel
theorem dX11_greatestWith_20 : decode cX11_greatestWith 20 = .ok (.ireturn, 1) := by decide +kernel
theorem dX11_greatestWith_21 : decode cX11_greatestWith 21 = .ok (.aload_n 0, 1) := by decide +kernel
theorem dX11_greatestWith_22 : decode cX11_greatestWith 22 = .ok (.getfield 9, 3) := by decide +kernel
theorem dX11_greatestWith_25 : decode cX11_greatestWith 25 = .ok (.iconst 0, 1) := by decide +kernel
theorem dX11_greatestWith_26 : decode cX11_greatestWith 26 = .ok (.iload_n 1, 1) := by decide +kernel
theorem dX11_greatestWith_27 : decode cX11_greatestWith 27 = .ok (.iadd, 1) := by decide +kernel
theorem dX11_greatestWith_28 : decode cX11_greatestWith 28 = .ok (.iaload, 1) := by decide +kernel
theorem dX11_greatestWith_29 : decode cX11_greatestWith 29 = .ok (.istore_n 3, 1) := by decide +kernel
theorem dX11_greatestWith_30 : decode cX11_greatestWith 30 = .ok (.aload_n 0, 1) := by decide +kernel
theorem dX11_greatestWith_31 : decode cX11_greatestWith 31 = .ok (.getfield 9, 3) := by decide +kernel
theorem dX11_greatestWith_34 : decode cX11_greatestWith 34 = .ok (.iconst 0, 1) := by decide +kernel
theorem dX11_greatestWith_35 : decode cX11_greatestWith 35 = .ok (.iload_n 1, 1) := by decide +kernel
theorem dX11_greatestWith_36 : decode cX11_greatestWith 36 = .ok (.iadd, 1) := by decide +kernel
theorem dX11_greatestWith_37 : decode cX11_greatestWith 37 = .ok (.iload_n 2, 1) := by decide +kernel
theorem dX11_greatestWith_38 : decode cX11_greatestWith 38 = .ok (.iastore, 1) := by decide +kernel
theorem dX11_greatestWith_39 : decode cX11_greatestWith 39 = .ok (.aload_n 0, 1) := by decide +kernel
theorem dX11_greatestWith_40 : decode cX11_greatestWith 40 = .ok (.invokevirtual 163, 3) := by decide +kernel
theorem dX11_greatestWith_43 : decode cX11_greatestWith 43 = .ok (.aload_n 0, 1) := by decide +kernel
theorem dX11_greatestWith_44 : decode cX11_greatestWith 44 = .ok (.invokevirtual 160, 3) := by decide +kernel
theorem dX11_greatestWith_47 : decode cX11_greatestWith 47 = .ok (.istore 4, 2) := by decide +kernel
theorem dX11_greatestWith_49 : decode cX11_greatestWith 49 = .ok (.aload_n 0, 1) := by decide +kernel
theorem dX11_greatestWith_50 : decode cX11_greatestWith 50 = .ok (.getfield 9, 3) := by decide +kernel
theorem dX11_greatestWith_53 : decode cX11_greatestWith 53 = .ok (.iconst 0, 1) := by decide +kernel
theorem dX11_greatestWith_54 : decode cX11_greatestWith 54 = .ok (.iload_n 1, 1) := by decide +kernel
theorem dX11_greatestWith_55 : decode cX11_greatestWith 55 = .ok (.iadd, 1) := by decide +kernel
theorem dX11_greatestWith_56 : decode cX11_greatestWith 56 = .ok (.iload_n 3, 1) := by decide +kernel
theorem dX11_greatestWith_57 : decode cX11_greatestWith 57 = .ok (.iastore, 1) := by decide +kernel
theorem dX11_greatestWith_58 : decode cX11_greatestWith 58 = .ok (.aload_n 0, 1) := by decide +kernel
theorem dX11_greatestWith_59 : decode cX11_greatestWith 59 = .ok (.invokevirtual 163, 3) := by decide +kernel
theorem dX11_greatestWith_62 : decode cX11_greatestWith 62 = .ok (.iload 4, 2) := by decide +kernel
theorem dX11_greatestWith_64 : decode cX11_greatestWith 64 = .ok (.ifCond .eq 8, 3) := by decide +kernel
theorem dX11_greatestWith_67 : decode cX11_greatestWith 67 = .ok (.iload 4, 2) := by decide +kernel
theorem dX11_greatestWith_69 : decode cX11_greatestWith 69 = .ok (.goto 7, 3) := by decide +kernel
theorem dX11_greatestWith_72 : decode cX11_greatestWith 72 = .ok (.aload_n 0, 1) := by decide +kernel
theorem dX11_greatestWith_73 : decode cX11_greatestWith 73 = .ok (.getfield 142, 3) := by decide +kernel
theorem dX11_greatestWith_76 : decode cX11_greatestWith 76 = .ok (.ireturn, 1) := by decide +kernel
theorem dX11_forgets_0 : decode cX11_forgets 0 = .ok (.iconst 0, 1) := by decide +kernel
theorem dX11_forgets_1 : decode cX11_forgets 1 = .ok (.istore_n 1, 1) := by decide +kernel
theorem dX11_forgets_2 : decode cX11_forgets 2 = .ok (.iload_n 1, 1) := by decide +kernel
theorem dX11_forgets_3 : decode cX11_forgets 3 = .ok (.bipush 108, 2) := by decide +kernel
theorem dX11_forgets_5 : decode cX11_forgets 5 = .ok (.if_icmp .ge 16, 3) := by decide +kernel
theorem dX11_forgets_8 : decode cX11_forgets 8 = .ok (.aload_n 0, 1) := by decide +kernel
theorem dX11_forgets_9 : decode cX11_forgets 9 = .ok (.getfield 25, 3) := by decide +kernel
theorem dX11_forgets_12 : decode cX11_forgets 12 = .ok (.iload_n 1, 1) := by decide +kernel
theorem dX11_forgets_13 : decode cX11_forgets 13 = .ok (.iconst 0, 1) := by decide +kernel
theorem dX11_forgets_14 : decode cX11_forgets 14 = .ok (.bastore, 1) := by decide +kernel
theorem dX11_forgets_15 : decode cX11_forgets 15 = .ok (.iinc 1 1, 3) := by decide +kernel
theorem dX11_forgets_18 : decode cX11_forgets 18 = .ok (.goto (-16), 3) := by decide +kernel
theorem dX11_forgets_21 : decode cX11_forgets 21 = .ok (.return_, 1) := by decide +kernel
theorem dX11_cell_0 : decode cX11_cell 0 = .ok (.aload_n 0, 1) := by decide +kernel
theorem dX11_cell_1 : decode cX11_cell 1 = .ok (.getfield 39, 3) := by decide +kernel
theorem dX11_cell_4 : decode cX11_cell 4 = .ok (.bipush 61, 2) := by decide +kernel
theorem dX11_cell_6 : decode cX11_cell 6 = .ok (.iload_n 1, 1) := by decide +kernel
theorem dX11_cell_7 : decode cX11_cell 7 = .ok (.imul, 1) := by decide +kernel
theorem dX11_cell_8 : decode cX11_cell 8 = .ok (.iload_n 2, 1) := by decide +kernel
theorem dX11_cell_9 : decode cX11_cell 9 = .ok (.bipush 60, 2) := by decide +kernel
theorem dX11_cell_11 : decode cX11_cell 11 = .ok (.invokestatic 166, 3) := by decide +kernel
theorem dX11_cell_14 : decode cX11_cell 14 = .ok (.iadd, 1) := by decide +kernel
theorem dX11_cell_15 : decode cX11_cell 15 = .ok (.iaload, 1) := by decide +kernel
theorem dX11_cell_16 : decode cX11_cell 16 = .ok (.ireturn, 1) := by decide +kernel
theorem dX11_isTakenAt_0 : decode cX11_isTakenAt 0 = .ok (.aload_n 0, 1) := by decide +kernel
theorem dX11_isTakenAt_1 : decode cX11_isTakenAt 1 = .ok (.getfield 57, 3) := by decide +kernel
theorem dX11_isTakenAt_4 : decode cX11_isTakenAt 4 = .ok (.bipush 108, 2) := by decide +kernel
theorem dX11_isTakenAt_6 : decode cX11_isTakenAt 6 = .ok (.iload_n 2, 1) := by decide +kernel
theorem dX11_isTakenAt_7 : decode cX11_isTakenAt 7 = .ok (.imul, 1) := by decide +kernel
theorem dX11_isTakenAt_8 : decode cX11_isTakenAt 8 = .ok (.iload_n 1, 1) := by decide +kernel
theorem dX11_isTakenAt_9 : decode cX11_isTakenAt 9 = .ok (.iadd, 1) := by decide +kernel
theorem dX11_isTakenAt_10 : decode cX11_isTakenAt 10 = .ok (.iaload, 1) := by decide +kernel
theorem dX11_isTakenAt_11 : decode cX11_isTakenAt 11 = .ok (.ifCond .eq 7, 3) := by decide +kernel
theorem dX11_isTakenAt_14 : decode cX11_isTakenAt 14 = .ok (.iconst 1, 1) := by decide +kernel
theorem dX11_isTakenAt_15 : decode cX11_isTakenAt 15 = .ok (.goto 4, 3) := by decide +kernel
theorem dX11_isTakenAt_18 : decode cX11_isTakenAt 18 = .ok (.iconst 0, 1) := by decide +kernel
theorem dX11_isTakenAt_19 : decode cX11_isTakenAt 19 = .ok (.ireturn, 1) := by decide +kernel
theorem dX11_isMet_0 : decode cX11_isMet 0 = .ok (.aload_n 0, 1) := by decide +kernel
theorem dX11_isMet_1 : decode cX11_isMet 1 = .ok (.getfield 57, 3) := by decide +kernel
