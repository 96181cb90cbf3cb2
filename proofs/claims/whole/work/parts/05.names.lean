theorem dX8_mixUnlike_9 : decode cX8_mixUnlike 9 = .ok (.if_icmp .ge 127, 3) := by decide +kernel
theorem dX8_mixUnlike_12 : decode cX8_mixUnlike 12 = .ok (.iconst 0, 1) := by decide +kernel
theorem dX8_mixUnlike_13 : decode cX8_mixUnlike 13 = .ok (.istore 4, 2) := by decide +kernel
theorem dX8_mixUnlike_15 : decode cX8_mixUnlike 15 = .ok (.iload 4, 2) := by decide +kernel
theorem dX8_mixUnlike_17 : decode cX8_mixUnlike 17 = .ok (.iconst 2, 1) := by decide +kernel
theorem dX8_mixUnlike_18 : decode cX8_mixUnlike 18 = .ok (.if_icmp .ge 112, 3) := by decide +kernel
theorem dX8_mixUnlike_21 : decode cX8_mixUnlike 21 = .ok (.iconst 0, 1) := by decide +kernel
theorem dX8_mixUnlike_22 : decode cX8_mixUnlike 22 = .ok (.istore 5, 2) := by decide +kernel
theorem dX8_mixUnlike_24 : decode cX8_mixUnlike 24 = .ok (.iconst 0, 1) := by decide +kernel
theorem dX8_mixUnlike_25 : decode cX8_mixUnlike 25 = .ok (.istore 6, 2) := by decide +kernel
theorem dX8_mixUnlike_27 : decode cX8_mixUnlike 27 = .ok (.iload 6, 2) := by decide +kernel
theorem dX8_mixUnlike_29 : decode cX8_mixUnlike 29 = .ok (.iconst 3, 1) := by decide +kernel
theorem dX8_mixUnlike_30 : decode cX8_mixUnlike 30 = .ok (.if_icmp .ge 56, 3) := by decide +kernel
theorem dX8_mixUnlike_33 : decode cX8_mixUnlike 33 = .ok (.iload 5, 2) := by decide +kernel
theorem dX8_mixUnlike_35 : decode cX8_mixUnlike 35 = .ok (.aload_n 0, 1) := by decide +kernel
theorem dX8_mixUnlike_36 : decode cX8_mixUnlike 36 = .ok (.aload_n 0, 1) := by decide +kernel
theorem dX8_mixUnlike_37 : decode cX8_mixUnlike 37 = .ok (.getfield 168, 3) := by decide +kernel
theorem dX8_mixUnlike_40 : decode cX8_mixUnlike 40 = .ok (.aload_n 0, 1) := by decide +kernel
theorem dX8_mixUnlike_41 : decode cX8_mixUnlike 41 = .ok (.getfield 50, 3) := by decide +kernel
theorem dX8_mixUnlike_44 : decode cX8_mixUnlike 44 = .ok (.iload 6, 2) := by decide +kernel
theorem dX8_mixUnlike_46 : decode cX8_mixUnlike 46 = .ok (.iaload, 1) := by decide +kernel
theorem dX8_mixUnlike_47 : decode cX8_mixUnlike 47 = .ok (.iload 6, 2) := by decide +kernel
theorem dX8_mixUnlike_49 : decode cX8_mixUnlike 49 = .ok (.iconst 0, 1) := by decide +kernel
theorem dX8_mixUnlike_50 : decode cX8_mixUnlike 50 = .ok (.iconst 0, 1) := by decide +kernel
theorem dX8_mixUnlike_51 : decode cX8_mixUnlike 51 = .ok (.iload 4, 2) := by decide +kernel
theorem dX8_mixUnlike_53 : decode cX8_mixUnlike 53 = .ok (.iconst 1, 1) := by decide +kernel
theorem dX8_mixUnlike_54 : decode cX8_mixUnlike 54 = .ok (.if_icmp .ne 7, 3) := by decide +kernel
theorem dX8_mixUnlike_57 : decode cX8_mixUnlike 57 = .ok (.iconst 1, 1) := by decide +kernel
theorem dX8_mixUnlike_58 : decode cX8_mixUnlike 58 = .ok (.goto 4, 3) := by decide +kernel
theorem dX8_mixUnlike_61 : decode cX8_mixUnlike 61 = .ok (.iconst 0, 1) := by decide +kernel
theorem dX8_mixUnlike_62 : decode cX8_mixUnlike 62 = .ok (.invokevirtual 140, 3) := by decide +kernel
theorem dX8_mixUnlike_65 : decode cX8_mixUnlike 65 = .ok (.aload_n 0, 1) := by decide +kernel
theorem dX8_mixUnlike_66 : decode cX8_mixUnlike 66 = .ok (.getfield 44, 3) := by decide +kernel
theorem dX8_mixUnlike_69 : decode cX8_mixUnlike 69 = .ok (.iconst 3, 1) := by decide +kernel
theorem dX8_mixUnlike_70 : decode cX8_mixUnlike 70 = .ok (.iload_n 3, 1) := by decide +kernel
theorem dX8_mixUnlike_71 : decode cX8_mixUnlike 71 = .ok (.imul, 1) := by decide +kernel
theorem dX8_mixUnlike_72 : decode cX8_mixUnlike 72 = .ok (.iload 6, 2) := by decide +kernel
theorem dX8_mixUnlike_74 : decode cX8_mixUnlike 74 = .ok (.iadd, 1) := by decide +kernel
theorem dX8_mixUnlike_75 : decode cX8_mixUnlike 75 = .ok (.iaload, 1) := by decide +kernel
theorem dX8_mixUnlike_76 : decode cX8_mixUnlike 76 = .ok (.imul, 1) := by decide +kernel
theorem dX8_mixUnlike_77 : decode cX8_mixUnlike 77 = .ok (.iadd, 1) := by decide +kernel
theorem dX8_mixUnlike_78 : decode cX8_mixUnlike 78 = .ok (.istore 5, 2) := by decide +kernel
theorem dX8_mixUnlike_80 : decode cX8_mixUnlike 80 = .ok (.iinc 6 1, 3) := by decide +kernel
theorem dX8_mixUnlike_83 : decode cX8_mixUnlike 83 = .ok (.goto (-56), 3) := by decide +kernel
theorem dX8_mixUnlike_86 : decode cX8_mixUnlike 86 = .ok (.iload 5, 2) := by decide +kernel
theorem dX8_mixUnlike_88 : decode cX8_mixUnlike 88 = .ok (.aload_n 0, 1) := by decide +kernel
theorem dX8_mixUnlike_89 : decode cX8_mixUnlike 89 = .ok (.iload_n 1, 1) := by decide +kernel
theorem dX8_mixUnlike_90 : decode cX8_mixUnlike 90 = .ok (.iload_n 3, 1) := by decide +kernel
theorem dX8_mixUnlike_91 : decode cX8_mixUnlike 91 = .ok (.iload 4, 2) := by decide +kernel
theorem dX8_mixUnlike_93 : decode cX8_mixUnlike 93 = .ok (.iconst 1, 1) := by decide +kernel
theorem dX8_mixUnlike_94 : decode cX8_mixUnlike 94 = .ok (.if_icmp .ne 7, 3) := by decide +kernel
theorem dX8_mixUnlike_97 : decode cX8_mixUnlike 97 = .ok (.iconst 1, 1) := by decide +kernel
theorem dX8_mixUnlike_98 : decode cX8_mixUnlike 98 = .ok (.goto 4, 3) := by decide +kernel
theorem dX8_mixUnlike_101 : decode cX8_mixUnlike 101 = .ok (.iconst 0, 1) := by decide +kernel
theorem dX8_mixUnlike_102 : decode cX8_mixUnlike 102 = .ok (.invokevirtual 154, 3) := by decide +kernel
theorem dX8_mixUnlike_105 : decode cX8_mixUnlike 105 = .ok (.isub, 1) := by decide +kernel
theorem dX8_mixUnlike_106 : decode cX8_mixUnlike 106 = .ok (.invokestatic 158, 3) := by decide +kernel
theorem dX8_mixUnlike_109 : decode cX8_mixUnlike 109 = .ok (.istore 6, 2) := by decide +kernel
theorem dX8_mixUnlike_111 : decode cX8_mixUnlike 111 = .ok (.iload 6, 2) := by decide +kernel
theorem dX8_mixUnlike_113 : decode cX8_mixUnlike 113 = .ok (.iload_n 2, 1) := by decide +kernel
theorem dX8_mixUnlike_114 : decode cX8_mixUnlike 114 = .ok (.if_icmp .le 8, 3) := by decide +kernel
theorem dX8_mixUnlike_117 : decode cX8_mixUnlike 117 = .ok (.iload 6, 2) := by decide +kernel
theorem dX8_mixUnlike_119 : decode cX8_mixUnlike 119 = .ok (.goto 4, 3) := by decide +kernel
theorem dX8_mixUnlike_122 : decode cX8_mixUnlike 122 = .ok (.iload_n 2, 1) := by decide +kernel
theorem dX8_mixUnlike_123 : decode cX8_mixUnlike 123 = .ok (.istore_n 2, 1) := by decide +kernel
theorem dX8_mixUnlike_124 : decode cX8_mixUnlike 124 = .ok (.iinc 4 1, 3) := by decide +kernel
theorem dX8_mixUnlike_127 : decode cX8_mixUnlike 127 = .ok (.goto (-112), 3) := by decide +kernel
theorem dX8_mixUnlike_130 : decode cX8_mixUnlike 130 = .ok (.iinc 3 1, 3) := by decide +kernel
theorem dX8_mixUnlike_133 : decode cX8_mixUnlike 133 = .ok (.goto (-129), 3) := by decide +kernel
theorem dX8_mixUnlike_136 : decode cX8_mixUnlike 136 = .ok (.iload_n 2, 1) := by decide +kernel
theorem dX8_mixUnlike_137 : decode cX8_mixUnlike 137 = .ok (.ireturn, 1) := by decide +kernel
set_option maxRecDepth 20000 in
theorem ggX8_findBest_X8_areDrops : GoodIn wsX8_findBest wsX8_areDrops := goodIn_r _ [8, 2, 9, 10, 7, 11, 12, 13, 14, 15, 16, 54, 55, 56, 57, 58, 59, 60, 61, 62, 63, 64, 65, 66, 67, 68, 69, 70, 71, 72, 73, 74, 75, 76, 77, 78, 79, 80, 81, 82, 83, 84, 85, 86, 87, 88] (by decide +kernel) (by decide +kernel)
set_option maxRecDepth 20000 in
theorem gX8_findBest_X8_areDrops : GoodIn wsX8_findBest (wsV RX8 171 RX8 yX8_areDrops wsX8_areDrops) := goodIn_app (goodIn_of _ (by decide +kernel)) ggX8_findBest_X8_areDrops
set_option maxRecDepth 20000 in
theorem ggX8_findBest_X8_layMix : GoodIn wsX8_findBest wsX8_layMix := goodIn_r _ [20, 21, 2, 22, 23, 24, 54, 55, 56, 57, 58, 59, 60, 61, 62, 63, 64, 65, 66, 67, 68, 69, 70, 71, 72, 73, 74, 75, 76, 77, 78, 79, 80, 81, 82, 83, 84, 85, 86, 87, 88] (by decide +kernel) (by decide +kernel)
set_option maxRecDepth 20000 in
theorem gX8_findBest_X8_layMix : GoodIn wsX8_findBest (wsV RX8 175 RX8 yX8_layMix wsX8_layMix) := goodIn_app (goodIn_of _ (by decide +kernel)) ggX8_findBest_X8_layMix
set_option maxRecDepth 20000 in
theorem ggX8_findBest_X8_mixUnlike : GoodIn wsX8_findBest wsX8_mixUnlike := goodIn_r _ [28, 29, 21, 24, 30, 31, 32, 33, 7, 34, 35, 36, 37, 38, 39, 40, 41, 42, 43, 44, 45, 46, 47, 48, 49, 50, 22, 23, 51, 52, 53, 54, 55, 56, 57, 58, 59, 60, 61, 62, 63, 64, 65, 66, 67, 68, 69, 70, 71, 72, 73, 74, 75, 76, 77, 78, 79, 80, 81, 82, 83, 84, 85, 86, 87, 88] (by decide +kernel) (by decide +kernel)
set_option maxRecDepth 20000 in
theorem gX8_findBest_X8_mixUnlike : GoodIn wsX8_findBest (wsV RX8 181 RX8 yX8_mixUnlike wsX8_mixUnlike) := goodIn_app (goodIn_of _ (by decide +kernel)) ggX8_findBest_X8_mixUnlike
theorem dX8_findBest_0 : decode cX8_findBest 0 = .ok (.aload_n 0, 1) := by decide +kernel
theorem dX8_findBest_1 : decode cX8_findBest 1 = .ok (.bipush (-9), 2) := by decide +kernel
theorem dX8_findBest_3 : decode cX8_findBest 3 = .ok (.putfield 178, 3) := by decide +kernel
theorem dX8_findBest_6 : decode cX8_findBest 6 = .ok (.iconst 1, 1) := by decide +kernel
theorem dX8_findBest_7 : decode cX8_findBest 7 = .ok (.istore_n 2, 1) := by decide +kernel
theorem dX8_findBest_8 : decode cX8_findBest 8 = .ok (.iload_n 2, 1) := by decide +kernel
theorem dX8_findBest_9 : decode cX8_findBest 9 = .ok (.bipush 6, 2) := by decide +kernel
theorem dX8_findBest_11 : decode cX8_findBest 11 = .ok (.if_icmp .gt 173, 3) := by decide +kernel
theorem dX8_findBest_14 : decode cX8_findBest 14 = .ok (.iconst 0, 1) := by decide +kernel
theorem dX8_findBest_15 : decode cX8_findBest 15 = .ok (.istore_n 3, 1) := by decide +kernel
theorem dX8_findBest_16 : decode cX8_findBest 16 = .ok (.iload_n 3, 1) := by decide +kernel
theorem dX8_findBest_17 : decode cX8_findBest 17 = .ok (.sipush 2401, 3) := by decide +kernel
theorem dX8_findBest_20 : decode cX8_findBest 20 = .ok (.if_icmp .ge 158, 3) := by decide +kernel
theorem dX8_findBest_23 : decode cX8_findBest 23 = .ok (.aload_n 0, 1) := by decide +kernel
theorem dX8_findBest_24 : decode cX8_findBest 24 = .ok (.getfield 47, 3) := by decide +kernel
theorem dX8_findBest_27 : decode cX8_findBest 27 = .ok (.iconst 0, 1) := by decide +kernel
theorem dX8_findBest_28 : decode cX8_findBest 28 = .ok (.iload_n 3, 1) := by decide +kernel
theorem dX8_findBest_29 : decode cX8_findBest 29 = .ok (.sipush 343, 3) := by decide +kernel
theorem dX8_findBest_32 : decode cX8_findBest 32 = .ok (.idiv, 1) := by decide +kernel
theorem dX8_findBest_33 : decode cX8_findBest 33 = .ok (.iastore, 1) := by decide +kernel
theorem dX8_findBest_34 : decode cX8_findBest 34 = .ok (.aload_n 0, 1) := by decide +kernel
theorem dX8_findBest_35 : decode cX8_findBest 35 = .ok (.getfield 47, 3) := by decide +kernel
theorem dX8_findBest_38 : decode cX8_findBest 38 = .ok (.iconst 1, 1) := by decide +kernel
theorem dX8_findBest_39 : decode cX8_findBest 39 = .ok (.iload_n 3, 1) := by decide +kernel
theorem dX8_findBest_40 : decode cX8_findBest 40 = .ok (.bipush 49, 2) := by decide +kernel
theorem dX8_findBest_42 : decode cX8_findBest 42 = .ok (.idiv, 1) := by decide +kernel
theorem dX8_findBest_43 : decode cX8_findBest 43 = .ok (.bipush 7, 2) := by decide +kernel
theorem dX8_findBest_45 : decode cX8_findBest 45 = .ok (.irem, 1) := by decide +kernel
theorem dX8_findBest_46 : decode cX8_findBest 46 = .ok (.iastore, 1) := by decide +kernel
theorem dX8_findBest_47 : decode cX8_findBest 47 = .ok (.aload_n 0, 1) := by decide +kernel
theorem dX8_findBest_48 : decode cX8_findBest 48 = .ok (.getfield 47, 3) := by decide +kernel
theorem dX8_findBest_51 : decode cX8_findBest 51 = .ok (.iconst 2, 1) := by decide +kernel
theorem dX8_findBest_52 : decode cX8_findBest 52 = .ok (.iload_n 3, 1) := by decide +kernel
theorem dX8_findBest_53 : decode cX8_findBest 53 = .ok (.bipush 7, 2) := by decide +kernel
theorem dX8_findBest_55 : decode cX8_findBest 55 = .ok (.idiv, 1) := by decide +kernel
theorem dX8_findBest_56 : decode cX8_findBest 56 = .ok (.bipush 7, 2) := by decide +kernel
theorem dX8_findBest_58 : decode cX8_findBest 58 = .ok (.irem, 1) := by decide +kernel
theorem dX8_findBest_59 : decode cX8_findBest 59 = .ok (.iastore, 1) := by decide +kernel
theorem dX8_findBest_60 : decode cX8_findBest 60 = .ok (.aload_n 0, 1) := by decide +kernel
theorem dX8_findBest_61 : decode cX8_findBest 61 = .ok (.getfield 47, 3) := by decide +kernel
theorem dX8_findBest_64 : decode cX8_findBest 64 = .ok (.iconst 3, 1) := by decide +kernel
theorem dX8_findBest_65 : decode cX8_findBest 65 = .ok (.iload_n 3, 1) := by decide +kernel
theorem dX8_findBest_66 : decode cX8_findBest 66 = .ok (.bipush 7, 2) := by decide +kernel
theorem dX8_findBest_68 : decode cX8_findBest 68 = .ok (.irem, 1) := by decide +kernel
theorem dX8_findBest_69 : decode cX8_findBest 69 = .ok (.iastore, 1) := by decide +kernel
theorem dX8_findBest_70 : decode cX8_findBest 70 = .ok (.aload_n 0, 1) := by decide +kernel
theorem dX8_findBest_71 : decode cX8_findBest 71 = .ok (.getfield 47, 3) := by decide +kernel
theorem dX8_findBest_74 : decode cX8_findBest 74 = .ok (.iconst 0, 1) := by decide +kernel
theorem dX8_findBest_75 : decode cX8_findBest 75 = .ok (.iaload, 1) := by decide +kernel
theorem dX8_findBest_76 : decode cX8_findBest 76 = .ok (.aload_n 0, 1) := by decide +kernel
theorem dX8_findBest_77 : decode cX8_findBest 77 = .ok (.getfield 47, 3) := by decide +kernel
theorem dX8_findBest_80 : decode cX8_findBest 80 = .ok (.iconst 1, 1) := by decide +kernel
theorem dX8_findBest_81 : decode cX8_findBest 81 = .ok (.iaload, 1) := by decide +kernel
theorem dX8_findBest_82 : decode cX8_findBest 82 = .ok (.iadd, 1) := by decide +kernel
theorem dX8_findBest_83 : decode cX8_findBest 83 = .ok (.aload_n 0, 1) := by decide +kernel
theorem dX8_findBest_84 : decode cX8_findBest 84 = .ok (.getfield 47, 3) := by decide +kernel
theorem dX8_findBest_87 : decode cX8_findBest 87 = .ok (.iconst 2, 1) := by decide +kernel
theorem dX8_findBest_88 : decode cX8_findBest 88 = .ok (.iaload, 1) := by decide +kernel
theorem dX8_findBest_89 : decode cX8_findBest 89 = .ok (.iadd, 1) := by decide +kernel
theorem dX8_findBest_90 : decode cX8_findBest 90 = .ok (.aload_n 0, 1) := by decide +kernel
theorem dX8_findBest_91 : decode cX8_findBest 91 = .ok (.getfield 47, 3) := by decide +kernel
theorem dX8_findBest_94 : decode cX8_findBest 94 = .ok (.iconst 3, 1) := by decide +kernel
theorem dX8_findBest_95 : decode cX8_findBest 95 = .ok (.iaload, 1) := by decide +kernel
theorem dX8_findBest_96 : decode cX8_findBest 96 = .ok (.iadd, 1) := by decide +kernel
theorem dX8_findBest_97 : decode cX8_findBest 97 = .ok (.iload_n 2, 1) := by decide +kernel
theorem dX8_findBest_98 : decode cX8_findBest 98 = .ok (.if_icmp .ne 74, 3) := by decide +kernel
theorem dX8_findBest_101 : decode cX8_findBest 101 = .ok (.aload_n 0, 1) := by decide +kernel
theorem dX8_findBest_102 : decode cX8_findBest 102 = .ok (.invokevirtual 171, 3) := by decide +kernel
theorem dX8_findBest_105 : decode cX8_findBest 105 = .ok (.ifCond .eq 67, 3) := by decide +kernel
theorem dX8_findBest_108 : decode cX8_findBest 108 = .ok (.aload_n 0, 1) := by decide +kernel
theorem dX8_findBest_109 : decode cX8_findBest 109 = .ok (.invokevirtual 175, 3) := by decide +kernel
theorem dX8_findBest_112 : decode cX8_findBest 112 = .ok (.aload_n 0, 1) := by decide +kernel
theorem dX8_findBest_113 : decode cX8_findBest 113 = .ok (.iload_n 1, 1) := by decide +kernel
theorem dX8_findBest_114 : decode cX8_findBest 114 = .ok (.invokevirtual 181, 3) := by decide +kernel
theorem dX8_findBest_117 : decode cX8_findBest 117 = .ok (.istore 4, 2) := by decide +kernel
theorem dX8_findBest_119 : decode cX8_findBest 119 = .ok (.aload_n 0, 1) := by decide +kernel
theorem dX8_findBest_120 : decode cX8_findBest 120 = .ok (.getfield 178, 3) := by decide +kernel
theorem dX8_findBest_123 : decode cX8_findBest 123 = .ok (.bipush (-9), 2) := by decide +kernel
theorem dX8_findBest_125 : decode cX8_findBest 125 = .ok (.if_icmp .eq 12, 3) := by decide +kernel
theorem dX8_findBest_128 : decode cX8_findBest 128 = .ok (.iload 4, 2) := by decide +kernel
theorem dX8_findBest_130 : decode cX8_findBest 130 = .ok (.aload_n 0, 1) := by decide +kernel
theorem dX8_findBest_131 : decode cX8_findBest 131 = .ok (.getfield 178, 3) := by decide +kernel
theorem dX8_findBest_134 : decode cX8_findBest 134 = .ok (.if_icmp .ge 38, 3) := by decide +kernel
theorem dX8_findBest_137 : decode cX8_findBest 137 = .ok (.aload_n 0, 1) := by decide +kernel
theorem dX8_findBest_138 : decode cX8_findBest 138 = .ok (.iload 4, 2) := by decide +kernel
theorem dX8_findBest_140 : decode cX8_findBest 140 = .ok (.putfield 178, 3) := by decide +kernel
theorem dX8_findBest_143 : decode cX8_findBest 143 = .ok (.iconst 0, 1) := by decide +kernel
theorem dX8_findBest_144 : decode cX8_findBest 144 = .ok (.istore 5, 2) := by decide +kernel
theorem dX8_findBest_146 : decode cX8_findBest 146 = .ok (.iload 5, 2) := by decide +kernel
theorem dX8_findBest_148 : decode cX8_findBest 148 = .ok (.iconst 4, 1) := by decide +kernel
theorem dX8_findBest_149 : decode cX8_findBest 149 = .ok (.if_icmp .ge 23, 3) := by decide +kernel
theorem dX8_findBest_152 : decode cX8_findBest 152 = .ok (.aload_n 0, 1) := by decide +kernel
theorem dX8_findBest_153 : decode cX8_findBest 153 = .ok (.getfield 53, 3) := by decide +kernel
theorem dX8_findBest_156 : decode cX8_findBest 156 = .ok (.iload 5, 2) := by decide +kernel
theorem dX8_findBest_158 : decode cX8_findBest 158 = .ok (.aload_n 0, 1) := by decide +kernel
theorem dX8_findBest_159 : decode cX8_findBest 159 = .ok (.getfield 47, 3) := by decide +kernel
theorem dX8_findBest_162 : decode cX8_findBest 162 = .ok (.iload 5, 2) := by decide +kernel
theorem dX8_findBest_164 : decode cX8_findBest 164 = .ok (.iaload, 1) := by decide +kernel
theorem dX8_findBest_165 : decode cX8_findBest 165 = .ok (.iastore, 1) := by decide +kernel
theorem dX8_findBest_166 : decode cX8_findBest 166 = .ok (.iinc 5 1, 3) := by decide +kernel
theorem dX8_findBest_169 : decode cX8_findBest 169 = .ok (.goto (-23), 3) := by decide +kernel
theorem dX8_findBest_172 : decode cX8_findBest 172 = .ok (.iinc 3 1, 3) := by decide +kernel
theorem dX8_findBest_175 : decode cX8_findBest 175 = .ok (.goto (-159), 3) := by decide +kernel
theorem dX8_findBest_178 : decode cX8_findBest 178 = .ok (.iinc 2 1, 3) := by decide +kernel
theorem dX8_findBest_181 : decode cX8_findBest 181 = .ok (.goto (-173), 3) := by decide +kernel
theorem dX8_findBest_184 : decode cX8_findBest 184 = .ok (.return_, 1) := by decide +kernel
set_option maxRecDepth 20000 in
theorem ggX8_best_X8_isCell : GoodIn wsX8_best wsX8_isCell := goodIn_r _ [7, 8, 9, 10, 6, 11, 12, 13, 68, 69, 70, 71, 72, 73, 74, 75, 76, 77, 78, 79, 80, 81, 82, 83, 84, 85, 86, 87, 88, 89, 90, 91, 92, 93, 94, 95, 96, 97, 98, 99, 100, 101, 102] (by decide +kernel) (by decide +kernel)
set_option maxRecDepth 20000 in
theorem gX8_best_X8_isCell : GoodIn wsX8_best (wsV RX8 134 RX8 yX8_isCell wsX8_isCell) := goodIn_app (goodIn_of _ (by decide +kernel)) ggX8_best_X8_isCell
set_option maxRecDepth 20000 in
theorem ggX8_best_X8_within : GoodIn wsX8_best wsX8_within := goodIn_r _ [16] (by decide +kernel) (by decide +kernel)
set_option maxRecDepth 20000 in
theorem gX8_best_X8_within : GoodIn wsX8_best (va_wsS RX8 71 yX8_within wsX8_within) := goodIn_app (goodIn_of _ (by decide +kernel)) ggX8_best_X8_within
set_option maxRecDepth 20000 in
theorem ggX8_best_X8_findBest : GoodIn wsX8_best wsX8_findBest := goodIn_r _ [20, 1, 21, 2, 22, 23, 24, 6, 25, 14, 15, 16, 26, 27, 28, 29, 30, 31, 32, 33, 34, 35, 36, 37, 38, 39, 40, 41, 42, 43, 44, 45, 46, 47, 48, 49, 50, 51, 52, 53, 54, 55, 56, 57, 58, 59, 60, 61, 62, 63, 64, 65, 66, 67, 68, 69, 70, 71, 72, 73, 74, 75, 76, 77, 78, 79, 80, 81, 82, 83, 84, 85, 86, 87, 88, 89, 90, 91, 92, 93, 94, 95, 96, 97, 98, 99, 100, 101, 102] (by decide +kernel) (by decide +kernel)
set_option maxRecDepth 20000 in
theorem gX8_best_X8_findBest : GoodIn wsX8_best (wsV RX8 184 RX8 yX8_findBest wsX8_findBest) := goodIn_app (goodIn_of _ (by decide +kernel)) ggX8_best_X8_findBest
theorem dX8_best_0 : decode cX8_best 0 = .ok (.aload_n 0, 1) := by decide +kernel
theorem dX8_best_1 : decode cX8_best 1 = .ok (.iload_n 1, 1) := by decide +kernel
theorem dX8_best_2 : decode cX8_best 2 = .ok (.invokevirtual 134, 3) := by decide +kernel
theorem dX8_best_5 : decode cX8_best 5 = .ok (.ifCond .ne 5, 3) := by decide +kernel
theorem dX8_best_8 : decode cX8_best 8 = .ok (.iconst (-1), 1) := by decide +kernel
theorem dX8_best_9 : decode cX8_best 9 = .ok (.ireturn, 1) := by decide +kernel
theorem dX8_best_10 : decode cX8_best 10 = .ok (.iload_n 2, 1) := by decide +kernel
theorem dX8_best_11 : decode cX8_best 11 = .ok (.iconst (-1), 1) := by decide +kernel
theorem dX8_best_12 : decode cX8_best 12 = .ok (.iconst 3, 1) := by decide +kernel
theorem dX8_best_13 : decode cX8_best 13 = .ok (.invokestatic 71, 3) := by decide +kernel
theorem dX8_best_16 : decode cX8_best 16 = .ok (.ifCond .ne 6, 3) := by decide +kernel
theorem dX8_best_19 : decode cX8_best 19 = .ok (.bipush (-2), 2) := by decide +kernel
theorem dX8_best_21 : decode cX8_best 21 = .ok (.ireturn, 1) := by decide +kernel
theorem dX8_best_22 : decode cX8_best 22 = .ok (.aload_n 0, 1) := by decide +kernel
theorem dX8_best_23 : decode cX8_best 23 = .ok (.iload_n 1, 1) := by decide +kernel
theorem dX8_best_24 : decode cX8_best 24 = .ok (.invokevirtual 184, 3) := by decide +kernel
theorem dX8_best_27 : decode cX8_best 27 = .ok (.iload_n 2, 1) := by decide +kernel
theorem dX8_best_28 : decode cX8_best 28 = .ok (.iconst (-1), 1) := by decide +kernel
theorem dX8_best_29 : decode cX8_best 29 = .ok (.if_icmp .ne 10, 3) := by decide +kernel
theorem dX8_best_32 : decode cX8_best 32 = .ok (.aload_n 0, 1) := by decide +kernel
theorem dX8_best_33 : decode cX8_best 33 = .ok (.getfield 178, 3) := by decide +kernel
theorem dX8_best_36 : decode cX8_best 36 = .ok (.goto 9, 3) := by decide +kernel
theorem dX8_best_39 : decode cX8_best 39 = .ok (.aload_n 0, 1) := by decide +kernel
theorem dX8_best_40 : decode cX8_best 40 = .ok (.getfield 53, 3) := by decide +kernel
theorem dX8_best_43 : decode cX8_best 43 = .ok (.iload_n 2, 1) := by decide +kernel
theorem dX8_best_44 : decode cX8_best 44 = .ok (.iaload, 1) := by decide +kernel
theorem dX8_best_45 : decode cX8_best 45 = .ok (.ireturn, 1) := by decide +kernel
set_option maxRecDepth 20000 in
theorem ggX8_freshUnlike_X8_lookOf : GoodIn wsX8_freshUnlike wsX8_lookOf := goodIn_r _ [5, 6, 7, 8, 9, 4, 10, 11, 12, 13, 14, 15, 16, 17, 21, 22, 23, 24, 25, 26, 27, 28, 29, 30, 31, 32, 33, 34, 35, 36, 37, 38, 39, 40, 41, 42, 43, 44, 45, 46, 47, 48, 49, 50, 51, 52, 53, 54, 55] (by decide +kernel) (by decide +kernel)
set_option maxRecDepth 20000 in
theorem gX8_freshUnlike_X8_lookOf : GoodIn wsX8_freshUnlike (wsV RX8 148 RX8 yX8_lookOf wsX8_lookOf) := goodIn_app (goodIn_of _ (by decide +kernel)) ggX8_freshUnlike_X8_lookOf
set_option maxRecDepth 20000 in
theorem ggX8_freshUnlike_X8_size : GoodIn wsX8_freshUnlike wsX8_size := goodIn_r _ [20] (by decide +kernel) (by decide +kernel)
set_option maxRecDepth 20000 in
theorem gX8_freshUnlike_X8_size : GoodIn wsX8_freshUnlike (va_wsS RX8 158 yX8_size wsX8_size) := goodIn_app (goodIn_of _ (by decide +kernel)) ggX8_freshUnlike_X8_size
theorem dX8_freshUnlike_0 : decode cX8_freshUnlike 0 = .ok (.aload_n 0, 1) := by decide +kernel
theorem dX8_freshUnlike_1 : decode cX8_freshUnlike 1 = .ok (.iload_n 1, 1) := by decide +kernel
theorem dX8_freshUnlike_2 : decode cX8_freshUnlike 2 = .ok (.iconst 0, 1) := by decide +kernel
theorem dX8_freshUnlike_3 : decode cX8_freshUnlike 3 = .ok (.iconst 0, 1) := by decide +kernel
theorem dX8_freshUnlike_4 : decode cX8_freshUnlike 4 = .ok (.iload_n 3, 1) := by decide +kernel
theorem dX8_freshUnlike_5 : decode cX8_freshUnlike 5 = .ok (.iconst 0, 1) := by decide +kernel
theorem dX8_freshUnlike_6 : decode cX8_freshUnlike 6 = .ok (.invokevirtual 148, 3) := by decide +kernel
theorem dX8_freshUnlike_9 : decode cX8_freshUnlike 9 = .ok (.aload_n 0, 1) := by decide +kernel
theorem dX8_freshUnlike_10 : decode cX8_freshUnlike 10 = .ok (.iload_n 2, 1) := by decide +kernel
theorem dX8_freshUnlike_11 : decode cX8_freshUnlike 11 = .ok (.iconst 0, 1) := by decide +kernel
theorem dX8_freshUnlike_12 : decode cX8_freshUnlike 12 = .ok (.iconst 0, 1) := by decide +kernel
theorem dX8_freshUnlike_13 : decode cX8_freshUnlike 13 = .ok (.iload_n 3, 1) := by decide +kernel
theorem dX8_freshUnlike_14 : decode cX8_freshUnlike 14 = .ok (.iconst 0, 1) := by decide +kernel
theorem dX8_freshUnlike_15 : decode cX8_freshUnlike 15 = .ok (.invokevirtual 148, 3) := by decide +kernel
theorem dX8_freshUnlike_18 : decode cX8_freshUnlike 18 = .ok (.isub, 1) := by decide +kernel
theorem dX8_freshUnlike_19 : decode cX8_freshUnlike 19 = .ok (.invokestatic 158, 3) := by decide +kernel
theorem dX8_freshUnlike_22 : decode cX8_freshUnlike 22 = .ok (.ireturn, 1) := by decide +kernel
set_option maxRecDepth 20000 in
theorem ggX8_traitors_X8_isLight : GoodIn wsX8_traitors wsX8_isLight := goodIn_r _ [7, 8, 32, 33, 34, 35, 36, 37, 38, 39, 40, 41, 42, 43, 44, 45, 46, 47, 48, 49, 50, 51, 52, 53, 54, 55, 56, 57, 58, 59, 60, 61, 62, 63, 64, 65, 66] (by decide +kernel) (by decide +kernel)
set_option maxRecDepth 20000 in
theorem gX8_traitors_X8_isLight : GoodIn wsX8_traitors (wsV RX8 151 RX8 yX8_isLight wsX8_isLight) := goodIn_app (goodIn_of _ (by decide +kernel)) ggX8_traitors_X8_isLight
set_option maxRecDepth 20000 in
theorem ggX8_traitors_X8_freshUnlike : GoodIn wsX8_traitors wsX8_freshUnlike := goodIn_r _ [12, 13, 14, 15, 6, 16, 17, 18, 19, 20, 21, 22, 23, 24, 25, 26, 27, 28, 29, 30, 31, 32, 33, 34, 35, 36, 37, 38, 39, 40, 41, 42, 43, 44, 45, 46, 47, 48, 49, 50, 51, 52, 53, 54, 55, 56, 57, 58, 59, 60, 61, 62, 63, 64, 65, 66] (by decide +kernel) (by decide +kernel)
set_option maxRecDepth 20000 in
theorem gX8_traitors_X8_freshUnlike : GoodIn wsX8_traitors (wsV RX8 188 RX8 yX8_freshUnlike wsX8_freshUnlike) := goodIn_app (goodIn_of _ (by decide +kernel)) ggX8_traitors_X8_freshUnlike
theorem dX8_traitors_0 : decode cX8_traitors 0 = .ok (.aload_n 0, 1) := by decide +kernel
theorem dX8_traitors_1 : decode cX8_traitors 1 = .ok (.iload_n 1, 1) := by decide +kernel
theorem dX8_traitors_2 : decode cX8_traitors 2 = .ok (.invokevirtual 151, 3) := by decide +kernel
theorem dX8_traitors_5 : decode cX8_traitors 5 = .ok (.ifCond .eq 16, 3) := by decide +kernel
theorem dX8_traitors_8 : decode cX8_traitors 8 = .ok (.aload_n 0, 1) := by decide +kernel
theorem dX8_traitors_9 : decode cX8_traitors 9 = .ok (.iload_n 2, 1) := by decide +kernel
theorem dX8_traitors_10 : decode cX8_traitors 10 = .ok (.invokevirtual 151, 3) := by decide +kernel
theorem dX8_traitors_13 : decode cX8_traitors 13 = .ok (.ifCond .eq 8, 3) := by decide +kernel
theorem dX8_traitors_16 : decode cX8_traitors 16 = .ok (.iload_n 3, 1) := by decide +kernel
theorem dX8_traitors_17 : decode cX8_traitors 17 = .ok (.iconst (-1), 1) := by decide +kernel
theorem dX8_traitors_18 : decode cX8_traitors 18 = .ok (.if_icmp .ge 5, 3) := by decide +kernel
theorem dX8_traitors_21 : decode cX8_traitors 21 = .ok (.iconst (-1), 1) := by decide +kernel
theorem dX8_traitors_22 : decode cX8_traitors 22 = .ok (.ireturn, 1) := by decide +kernel
theorem dX8_traitors_23 : decode cX8_traitors 23 = .ok (.iconst 0, 1) := by decide +kernel
theorem dX8_traitors_24 : decode cX8_traitors 24 = .ok (.istore 4, 2) := by decide +kernel
theorem dX8_traitors_26 : decode cX8_traitors 26 = .ok (.iconst 0, 1) := by decide +kernel
theorem dX8_traitors_27 : decode cX8_traitors 27 = .ok (.istore 5, 2) := by decide +kernel
theorem dX8_traitors_29 : decode cX8_traitors 29 = .ok (.iload 5, 2) := by decide +kernel
theorem dX8_traitors_31 : decode cX8_traitors 31 = .ok (.aload_n 0, 1) := by decide +kernel
theorem dX8_traitors_32 : decode cX8_traitors 32 = .ok (.getfield 124, 3) := by decide +kernel
theorem dX8_traitors_35 : decode cX8_traitors 35 = .ok (.if_icmp .ge 80, 3) := by decide +kernel
theorem dX8_traitors_38 : decode cX8_traitors 38 = .ok (.iload 5, 2) := by decide +kernel
theorem dX8_traitors_40 : decode cX8_traitors 40 = .ok (.iconst 1, 1) := by decide +kernel
theorem dX8_traitors_41 : decode cX8_traitors 41 = .ok (.iadd, 1) := by decide +kernel
theorem dX8_traitors_42 : decode cX8_traitors 42 = .ok (.istore 6, 2) := by decide +kernel
theorem dX8_traitors_44 : decode cX8_traitors 44 = .ok (.iload 6, 2) := by decide +kernel
theorem dX8_traitors_46 : decode cX8_traitors 46 = .ok (.aload_n 0, 1) := by decide +kernel
theorem dX8_traitors_47 : decode cX8_traitors 47 = .ok (.getfield 124, 3) := by decide +kernel
theorem dX8_traitors_50 : decode cX8_traitors 50 = .ok (.if_icmp .ge 59, 3) := by decide +kernel
theorem dX8_traitors_53 : decode cX8_traitors 53 = .ok (.aload_n 0, 1) := by decide +kernel
theorem dX8_traitors_54 : decode cX8_traitors 54 = .ok (.iload 5, 2) := by decide +kernel
theorem dX8_traitors_56 : decode cX8_traitors 56 = .ok (.iload 6, 2) := by decide +kernel
theorem dX8_traitors_58 : decode cX8_traitors 58 = .ok (.iload_n 1, 1) := by decide +kernel
theorem dX8_traitors_59 : decode cX8_traitors 59 = .ok (.invokevirtual 188, 3) := by decide +kernel
theorem dX8_traitors_62 : decode cX8_traitors 62 = .ok (.aload_n 0, 1) := by decide +kernel
theorem dX8_traitors_63 : decode cX8_traitors 63 = .ok (.getfield 118, 3) := by decide +kernel
theorem dX8_traitors_66 : decode cX8_traitors 66 = .ok (.if_icmp .ge 37, 3) := by decide +kernel
theorem dX8_traitors_69 : decode cX8_traitors 69 = .ok (.aload_n 0, 1) := by decide +kernel
theorem dX8_traitors_70 : decode cX8_traitors 70 = .ok (.iload 5, 2) := by decide +kernel
theorem dX8_traitors_72 : decode cX8_traitors 72 = .ok (.iload 6, 2) := by decide +kernel
theorem dX8_traitors_74 : decode cX8_traitors 74 = .ok (.iload_n 2, 1) := by decide +kernel
theorem dX8_traitors_75 : decode cX8_traitors 75 = .ok (.invokevirtual 188, 3) := by decide +kernel
theorem dX8_traitors_78 : decode cX8_traitors 78 = .ok (.aload_n 0, 1) := by decide +kernel
theorem dX8_traitors_79 : decode cX8_traitors 79 = .ok (.getfield 118, 3) := by decide +kernel
theorem dX8_traitors_82 : decode cX8_traitors 82 = .ok (.if_icmp .lt 21, 3) := by decide +kernel
theorem dX8_traitors_85 : decode cX8_traitors 85 = .ok (.iload 4, 2) := by decide +kernel
theorem dX8_traitors_87 : decode cX8_traitors 87 = .ok (.iload_n 3, 1) := by decide +kernel
theorem dX8_traitors_88 : decode cX8_traitors 88 = .ok (.if_icmp .ne 12, 3) := by decide +kernel
theorem dX8_traitors_91 : decode cX8_traitors 91 = .ok (.bipush 10, 2) := by decide +kernel
theorem dX8_traitors_93 : decode cX8_traitors 93 = .ok (.iload 5, 2) := by decide +kernel
theorem dX8_traitors_95 : decode cX8_traitors 95 = .ok (.imul, 1) := by decide +kernel
theorem dX8_traitors_96 : decode cX8_traitors 96 = .ok (.iload 6, 2) := by decide +kernel
theorem dX8_traitors_98 : decode cX8_traitors 98 = .ok (.iadd, 1) := by decide +kernel
theorem dX8_traitors_99 : decode cX8_traitors 99 = .ok (.ireturn, 1) := by decide +kernel
theorem dX8_traitors_100 : decode cX8_traitors 100 = .ok (.iinc 4 1, 3) := by decide +kernel
theorem dX8_traitors_103 : decode cX8_traitors 103 = .ok (.iinc 6 1, 3) := by decide +kernel
theorem dX8_traitors_106 : decode cX8_traitors 106 = .ok (.goto (-62), 3) := by decide +kernel
theorem dX8_traitors_109 : decode cX8_traitors 109 = .ok (.iinc 5 1, 3) := by decide +kernel
theorem dX8_traitors_112 : decode cX8_traitors 112 = .ok (.goto (-83), 3) := by decide +kernel
theorem dX8_traitors_115 : decode cX8_traitors 115 = .ok (.iload_n 3, 1) := by decide +kernel
theorem dX8_traitors_116 : decode cX8_traitors 116 = .ok (.iconst (-1), 1) := by decide +kernel
theorem dX8_traitors_117 : decode cX8_traitors 117 = .ok (.if_icmp .ne 8, 3) := by decide +kernel
theorem dX8_traitors_120 : decode cX8_traitors 120 = .ok (.iload 4, 2) := by decide +kernel
theorem dX8_traitors_122 : decode cX8_traitors 122 = .ok (.goto 5, 3) := by decide +kernel
theorem dX8_traitors_125 : decode cX8_traitors 125 = .ok (.bipush (-9), 2) := by decide +kernel
theorem dX8_traitors_127 : decode cX8_traitors 127 = .ok (.ireturn, 1) := by decide +kernel
set_option maxRecDepth 20000 in
theorem ggX8_keepAll_X8_all : GoodIn wsX8_keepAll wsX8_all := goodIn_r _ [11, 12, 13, 14, 15, 16, 17, 18, 19, 20, 21, 22, 23, 24, 25, 26, 27, 28, 29, 30, 31, 32, 33, 34, 35, 36, 37, 38, 39, 40, 41, 42, 43, 44, 45, 46, 47, 48] (by decide +kernel) (by decide +kernel)
set_option maxRecDepth 20000 in
theorem gX8_keepAll_X8_all : GoodIn wsX8_keepAll (wsV RX8 81 RX8 yX8_all wsX8_all) := goodIn_app (goodIn_of _ (by decide +kernel)) ggX8_keepAll_X8_all
theorem dX8_keepAll_0 : decode cX8_keepAll 0 = .ok (.iconst 0, 1) := by decide +kernel
theorem dX8_keepAll_1 : decode cX8_keepAll 1 = .ok (.istore_n 1, 1) := by decide +kernel
theorem dX8_keepAll_2 : decode cX8_keepAll 2 = .ok (.iload_n 1, 1) := by decide +kernel
theorem dX8_keepAll_3 : decode cX8_keepAll 3 = .ok (.aload_n 0, 1) := by decide +kernel
theorem dX8_keepAll_4 : decode cX8_keepAll 4 = .ok (.invokevirtual 81, 3) := by decide +kernel
theorem dX8_keepAll_7 : decode cX8_keepAll 7 = .ok (.if_icmp .ge 45, 3) := by decide +kernel
theorem dX8_keepAll_10 : decode cX8_keepAll 10 = .ok (.aload_n 0, 1) := by decide +kernel
theorem dX8_keepAll_11 : decode cX8_keepAll 11 = .ok (.getfield 56, 3) := by decide +kernel
theorem dX8_keepAll_14 : decode cX8_keepAll 14 = .ok (.iload_n 1, 1) := by decide +kernel
theorem dX8_keepAll_15 : decode cX8_keepAll 15 = .ok (.aload_n 0, 1) := by decide +kernel
theorem dX8_keepAll_16 : decode cX8_keepAll 16 = .ok (.getfield 22, 3) := by decide +kernel
theorem dX8_keepAll_19 : decode cX8_keepAll 19 = .ok (.iload_n 1, 1) := by decide +kernel
theorem dX8_keepAll_20 : decode cX8_keepAll 20 = .ok (.iaload, 1) := by decide +kernel
theorem dX8_keepAll_21 : decode cX8_keepAll 21 = .ok (.iastore, 1) := by decide +kernel
theorem dX8_keepAll_22 : decode cX8_keepAll 22 = .ok (.aload_n 0, 1) := by decide +kernel
theorem dX8_keepAll_23 : decode cX8_keepAll 23 = .ok (.getfield 59, 3) := by decide +kernel
theorem dX8_keepAll_26 : decode cX8_keepAll 26 = .ok (.iload_n 1, 1) := by decide +kernel
theorem dX8_keepAll_27 : decode cX8_keepAll 27 = .ok (.aload_n 0, 1) := by decide +kernel
theorem dX8_keepAll_28 : decode cX8_keepAll 28 = .ok (.getfield 25, 3) := by decide +kernel
theorem dX8_keepAll_31 : decode cX8_keepAll 31 = .ok (.iload_n 1, 1) := by decide +kernel
theorem dX8_keepAll_32 : decode cX8_keepAll 32 = .ok (.iaload, 1) := by decide +kernel
theorem dX8_keepAll_33 : decode cX8_keepAll 33 = .ok (.iastore, 1) := by decide +kernel
theorem dX8_keepAll_34 : decode cX8_keepAll 34 = .ok (.aload_n 0, 1) := by decide +kernel
theorem dX8_keepAll_35 : decode cX8_keepAll 35 = .ok (.getfield 62, 3) := by decide +kernel
theorem dX8_keepAll_38 : decode cX8_keepAll 38 = .ok (.iload_n 1, 1) := by decide +kernel
theorem dX8_keepAll_39 : decode cX8_keepAll 39 = .ok (.aload_n 0, 1) := by decide +kernel
theorem dX8_keepAll_40 : decode cX8_keepAll 40 = .ok (.getfield 28, 3) := by decide +kernel
theorem dX8_keepAll_43 : decode cX8_keepAll 43 = .ok (.iload_n 1, 1) := by decide +kernel
theorem dX8_keepAll_44 : decode cX8_keepAll 44 = .ok (.iaload, 1) := by decide +kernel
theorem dX8_keepAll_45 : decode cX8_keepAll 45 = .ok (.iastore, 1) := by decide +kernel
theorem dX8_keepAll_46 : decode cX8_keepAll 46 = .ok (.iinc 1 1, 3) := by decide +kernel
theorem dX8_keepAll_49 : decode cX8_keepAll 49 = .ok (.goto (-47), 3) := by decide +kernel
theorem dX8_keepAll_52 : decode cX8_keepAll 52 = .ok (.return_, 1) := by decide +kernel
set_option maxRecDepth 20000 in
theorem ggX8_takeAll_X8_all : GoodIn wsX8_takeAll wsX8_all := goodIn_r _ [11, 12, 13, 14, 15, 16, 17, 18, 19, 20, 21, 22, 23, 24, 25, 26, 27, 28, 29, 30, 31, 32, 33, 34, 35, 36, 37, 38, 39, 40, 41, 42, 43, 44, 45, 46, 47, 48] (by decide +kernel) (by decide +kernel)
set_option maxRecDepth 20000 in
theorem gX8_takeAll_X8_all : GoodIn wsX8_takeAll (wsV RX8 81 RX8 yX8_all wsX8_all) := goodIn_app (goodIn_of _ (by decide +kernel)) ggX8_takeAll_X8_all
theorem dX8_takeAll_0 : decode cX8_takeAll 0 = .ok (.iconst 0, 1) := by decide +kernel
theorem dX8_takeAll_1 : decode cX8_takeAll 1 = .ok (.istore_n 1, 1) := by decide +kernel
theorem dX8_takeAll_2 : decode cX8_takeAll 2 = .ok (.iload_n 1, 1) := by decide +kernel
theorem dX8_takeAll_3 : decode cX8_takeAll 3 = .ok (.aload_n 0, 1) := by decide +kernel
theorem dX8_takeAll_4 : decode cX8_takeAll 4 = .ok (.invokevirtual 81, 3) := by decide +kernel
theorem dX8_takeAll_7 : decode cX8_takeAll 7 = .ok (.if_icmp .ge 45, 3) := by decide +kernel
theorem dX8_takeAll_10 : decode cX8_takeAll 10 = .ok (.aload_n 0, 1) := by decide +kernel
theorem dX8_takeAll_11 : decode cX8_takeAll 11 = .ok (.getfield 22, 3) := by decide +kernel
theorem dX8_takeAll_14 : decode cX8_takeAll 14 = .ok (.iload_n 1, 1) := by decide +kernel
theorem dX8_takeAll_15 : decode cX8_takeAll 15 = .ok (.aload_n 0, 1) := by decide +kernel
theorem dX8_takeAll_16 : decode cX8_takeAll 16 = .ok (.getfield 56, 3) := by decide +kernel
theorem dX8_takeAll_19 : decode cX8_takeAll 19 = .ok (.iload_n 1, 1) := by decide +kernel
theorem dX8_takeAll_20 : decode cX8_takeAll 20 = .ok (.iaload, 1) := by decide +kernel
theorem dX8_takeAll_21 : decode cX8_takeAll 21 = .ok (.iastore, 1) := by decide +kernel
theorem dX8_takeAll_22 : decode cX8_takeAll 22 = .ok (.aload_n 0, 1) := by decide +kernel
theorem dX8_takeAll_23 : decode cX8_takeAll 23 = .ok (.getfield 25, 3) := by decide +kernel
theorem dX8_takeAll_26 : decode cX8_takeAll 26 = .ok (.iload_n 1, 1) := by decide +kernel
theorem dX8_takeAll_27 : decode cX8_takeAll 27 = .ok (.aload_n 0, 1) := by decide +kernel
theorem dX8_takeAll_28 : decode cX8_takeAll 28 = .ok (.getfield 59, 3) := by decide +kernel
theorem dX8_takeAll_31 : decode cX8_takeAll 31 = .ok (.iload_n 1, 1) := by decide +kernel
theorem dX8_takeAll_32 : decode cX8_takeAll 32 = .ok (.iaload, 1) := by decide +kernel
theorem dX8_takeAll_33 : decode cX8_takeAll 33 = .ok (.iastore, 1) := by decide +kernel
theorem dX8_takeAll_34 : decode cX8_takeAll 34 = .ok (.aload_n 0, 1) := by decide +kernel
theorem dX8_takeAll_35 : decode cX8_takeAll 35 = .ok (.getfield 28, 3) := by decide +kernel
theorem dX8_takeAll_38 : decode cX8_takeAll 38 = .ok (.iload_n 1, 1) := by decide +kernel
theorem dX8_takeAll_39 : decode cX8_takeAll 39 = .ok (.aload_n 0, 1) := by decide +kernel
theorem dX8_takeAll_40 : decode cX8_takeAll 40 = .ok (.getfield 62, 3) := by decide +kernel
theorem dX8_takeAll_43 : decode cX8_takeAll 43 = .ok (.iload_n 1, 1) := by decide +kernel
theorem dX8_takeAll_44 : decode cX8_takeAll 44 = .ok (.iaload, 1) := by decide +kernel
theorem dX8_takeAll_45 : decode cX8_takeAll 45 = .ok (.iastore, 1) := by decide +kernel
theorem dX8_takeAll_46 : decode cX8_takeAll 46 = .ok (.iinc 1 1, 3) := by decide +kernel
theorem dX8_takeAll_49 : decode cX8_takeAll 49 = .ok (.goto (-47), 3) := by decide +kernel
theorem dX8_takeAll_52 : decode cX8_takeAll 52 = .ok (.return_, 1) := by decide +kernel
set_option maxRecDepth 20000 in
theorem ggX8_seenWith_X8_keepAll : GoodIn wsX8_seenWith wsX8_keepAll := goodIn_r _ [6, 7, 8, 9, 10, 11, 12, 13, 14, 15, 5, 16, 17, 1, 68, 69, 70, 71, 72, 73, 74, 75, 76, 77, 78, 79, 80, 81, 82, 83, 84, 85, 86, 87, 88, 89, 90, 91, 92, 93, 94, 95, 96, 97, 98, 99, 100, 101, 102] (by decide +kernel) (by decide +kernel)
set_option maxRecDepth 20000 in
theorem gX8_seenWith_X8_keepAll : GoodIn wsX8_seenWith (wsV RX8 191 RX8 yX8_keepAll wsX8_keepAll) := goodIn_app (goodIn_of _ (by decide +kernel)) ggX8_seenWith_X8_keepAll
set_option maxRecDepth 20000 in
theorem ggX8_seenWith_X8_paint : GoodIn wsX8_seenWith wsX8_paint := goodIn_r _ [21, 8, 10, 12, 22, 23, 24, 5, 25, 13, 14, 15, 16, 17, 1, 26, 27, 28, 29, 30, 68, 69, 70, 71, 72, 73, 74, 75, 76, 77, 78, 79, 80, 81, 82, 83, 84, 85, 86, 87, 88, 89, 90, 91, 92, 93, 94, 95, 96, 97, 98, 99, 100, 101, 102] (by decide +kernel) (by decide +kernel)
set_option maxRecDepth 20000 in
theorem gX8_seenWith_X8_paint : GoodIn wsX8_seenWith (wsV RX8 194 RX8 yX8_paint wsX8_paint) := goodIn_app (goodIn_of _ (by decide +kernel)) ggX8_seenWith_X8_paint
set_option maxRecDepth 20000 in
theorem ggX8_seenWith_X8_seenOf : GoodIn wsX8_seenWith wsX8_seenOf := goodIn_r _ [34, 1, 17, 13, 14, 15, 5, 16, 35, 36, 37, 38, 39, 40, 41, 42, 43, 44, 8, 10, 12, 45, 46, 47, 48, 49, 50, 51, 52, 53, 54, 55, 56, 57, 58, 59, 60, 61, 62, 63, 68, 69, 70, 71, 72, 73, 74, 75, 76, 77, 78, 79, 80, 81, 82, 83, 84, 85, 86, 87, 88, 89, 90, 91, 92, 93, 94, 95, 96, 97, 98, 99, 100, 101, 102] (by decide +kernel) (by decide +kernel)
set_option maxRecDepth 20000 in
theorem gX8_seenWith_X8_seenOf : GoodIn wsX8_seenWith (wsV RX8 165 RX8 yX8_seenOf wsX8_seenOf) := goodIn_app (goodIn_of _ (by decide +kernel)) ggX8_seenWith_X8_seenOf
set_option maxRecDepth 20000 in
theorem ggX8_seenWith_X8_takeAll : GoodIn wsX8_seenWith wsX8_takeAll := goodIn_r _ [67, 8, 7, 10, 9, 12, 11, 13, 14, 15, 5, 16, 17, 1, 68, 69, 70, 71, 72, 73, 74, 75, 76, 77, 78, 79, 80, 81, 82, 83, 84, 85, 86, 87, 88, 89, 90, 91, 92, 93, 94, 95, 96, 97, 98, 99, 100, 101, 102] (by decide +kernel) (by decide +kernel)
set_option maxRecDepth 20000 in
theorem gX8_seenWith_X8_takeAll : GoodIn wsX8_seenWith (wsV RX8 198 RX8 yX8_takeAll wsX8_takeAll) := goodIn_app (goodIn_of _ (by decide +kernel)) ggX8_seenWith_X8_takeAll
theorem dX8_seenWith_0 : decode cX8_seenWith 0 = .ok (.aload_n 0, 1) := by decide +kernel
theorem dX8_seenWith_1 : decode cX8_seenWith 1 = .ok (.invokevirtual 191, 3) := by decide +kernel
theorem dX8_seenWith_4 : decode cX8_seenWith 4 = .ok (.iload_n 1, 1) := by decide +kernel
theorem dX8_seenWith_5 : decode cX8_seenWith 5 = .ok (.aload_n 0, 1) := by decide +kernel
theorem dX8_seenWith_6 : decode cX8_seenWith 6 = .ok (.getfield 78, 3) := by decide +kernel
theorem dX8_seenWith_9 : decode cX8_seenWith 9 = .ok (.idiv, 1) := by decide +kernel
theorem dX8_seenWith_10 : decode cX8_seenWith 10 = .ok (.istore 4, 2) := by decide +kernel
theorem dX8_seenWith_12 : decode cX8_seenWith 12 = .ok (.iload 4, 2) := by decide +kernel
theorem dX8_seenWith_14 : decode cX8_seenWith 14 = .ok (.iload_n 2, 1) := by decide +kernel
theorem dX8_seenWith_15 : decode cX8_seenWith 15 = .ok (.aload_n 0, 1) := by decide +kernel
theorem dX8_seenWith_16 : decode cX8_seenWith 16 = .ok (.getfield 78, 3) := by decide +kernel
theorem dX8_seenWith_19 : decode cX8_seenWith 19 = .ok (.idiv, 1) := by decide +kernel
theorem dX8_seenWith_20 : decode cX8_seenWith 20 = .ok (.if_icmp .gt 51, 3) := by decide +kernel
theorem dX8_seenWith_23 : decode cX8_seenWith 23 = .ok (.iload_n 1, 1) := by decide +kernel
theorem dX8_seenWith_24 : decode cX8_seenWith 24 = .ok (.aload_n 0, 1) := by decide +kernel
theorem dX8_seenWith_25 : decode cX8_seenWith 25 = .ok (.getfield 78, 3) := by decide +kernel
theorem dX8_seenWith_28 : decode cX8_seenWith 28 = .ok (.irem, 1) := by decide +kernel
theorem dX8_seenWith_29 : decode cX8_seenWith 29 = .ok (.istore 5, 2) := by decide +kernel
theorem dX8_seenWith_31 : decode cX8_seenWith 31 = .ok (.iload 5, 2) := by decide +kernel
theorem dX8_seenWith_33 : decode cX8_seenWith 33 = .ok (.iload_n 2, 1) := by decide +kernel
theorem dX8_seenWith_34 : decode cX8_seenWith 34 = .ok (.aload_n 0, 1) := by decide +kernel
theorem dX8_seenWith_35 : decode cX8_seenWith 35 = .ok (.getfield 78, 3) := by decide +kernel
theorem dX8_seenWith_38 : decode cX8_seenWith 38 = .ok (.irem, 1) := by decide +kernel
theorem dX8_seenWith_39 : decode cX8_seenWith 39 = .ok (.if_icmp .gt 26, 3) := by decide +kernel
theorem dX8_seenWith_42 : decode cX8_seenWith 42 = .ok (.aload_n 0, 1) := by decide +kernel
theorem dX8_seenWith_43 : decode cX8_seenWith 43 = .ok (.aload_n 0, 1) := by decide +kernel
theorem dX8_seenWith_44 : decode cX8_seenWith 44 = .ok (.getfield 78, 3) := by decide +kernel
theorem dX8_seenWith_47 : decode cX8_seenWith 47 = .ok (.iload 4, 2) := by decide +kernel
theorem dX8_seenWith_49 : decode cX8_seenWith 49 = .ok (.imul, 1) := by decide +kernel
theorem dX8_seenWith_50 : decode cX8_seenWith 50 = .ok (.iload 5, 2) := by decide +kernel
theorem dX8_seenWith_52 : decode cX8_seenWith 52 = .ok (.iadd, 1) := by decide +kernel
theorem dX8_seenWith_53 : decode cX8_seenWith 53 = .ok (.iload_n 3, 1) := by decide +kernel
theorem dX8_seenWith_54 : decode cX8_seenWith 54 = .ok (.invokevirtual 194, 3) := by decide +kernel
theorem dX8_seenWith_57 : decode cX8_seenWith 57 = .ok (.istore 6, 2) := by decide +kernel
theorem dX8_seenWith_59 : decode cX8_seenWith 59 = .ok (.iinc 5 1, 3) := by decide +kernel
theorem dX8_seenWith_62 : decode cX8_seenWith 62 = .ok (.goto (-31), 3) := by decide +kernel
theorem dX8_seenWith_65 : decode cX8_seenWith 65 = .ok (.iinc 4 1, 3) := by decide +kernel
theorem dX8_seenWith_68 : decode cX8_seenWith 68 = .ok (.goto (-56), 3) := by decide +kernel
theorem dX8_seenWith_71 : decode cX8_seenWith 71 = .ok (.aload_n 0, 1) := by decide +kernel
theorem dX8_seenWith_72 : decode cX8_seenWith 72 = .ok (.bipush (-9), 2) := by decide +kernel
theorem dX8_seenWith_74 : decode cX8_seenWith 74 = .ok (.invokevirtual 165, 3) := by decide +kernel
theorem dX8_seenWith_77 : decode cX8_seenWith 77 = .ok (.istore 4, 2) := by decide +kernel
theorem dX8_seenWith_79 : decode cX8_seenWith 79 = .ok (.aload_n 0, 1) := by decide +kernel
theorem dX8_seenWith_80 : decode cX8_seenWith 80 = .ok (.invokevirtual 198, 3) := by decide +kernel
theorem dX8_seenWith_83 : decode cX8_seenWith 83 = .ok (.iload 4, 2) := by decide +kernel
theorem dX8_seenWith_85 : decode cX8_seenWith 85 = .ok (.ireturn, 1) := by decide +kernel
set_option maxRecDepth 20000 in
theorem ggX8_offer_X8_seenWith : GoodIn wsX8_offer wsX8_seenWith := goodIn_r _ [9, 1, 10, 11, 12, 8, 13, 14, 15, 16, 17, 18, 19, 20, 21, 22, 23, 24, 25, 26, 27, 28, 29, 30, 31, 32, 33, 34, 35, 36, 37, 38, 39, 40, 41, 42, 43, 44, 45, 46, 47, 48, 49, 50, 51, 52, 53, 54, 55, 56, 57, 58, 59, 60, 61, 62, 63, 64, 65, 66, 67, 68, 69, 70, 71, 72, 73, 74, 75, 76, 77, 78, 79, 80, 81, 82, 83, 84, 85, 86, 87, 88, 89, 90, 91, 92, 93, 94, 95, 96, 97, 98, 99, 100, 101, 102, 103, 104, 105, 106, 107, 108, 109] (by decide +kernel) (by decide +kernel)
set_option maxRecDepth 20000 in
theorem gX8_offer_X8_seenWith : GoodIn wsX8_offer (wsV RX8 204 RX8 yX8_seenWith wsX8_seenWith) := goodIn_app (goodIn_of _ (by decide +kernel)) ggX8_offer_X8_seenWith
theorem dX8_offer_0 : decode cX8_offer 0 = .ok (.iload_n 2, 1) := by decide +kernel
theorem dX8_offer_1 : decode cX8_offer 1 = .ok (.aload_n 0, 1) := by decide +kernel
theorem dX8_offer_2 : decode cX8_offer 2 = .ok (.getfield 78, 3) := by decide +kernel
theorem dX8_offer_5 : decode cX8_offer 5 = .ok (.idiv, 1) := by decide +kernel
theorem dX8_offer_6 : decode cX8_offer 6 = .ok (.iload_n 1, 1) := by decide +kernel
theorem dX8_offer_7 : decode cX8_offer 7 = .ok (.aload_n 0, 1) := by decide +kernel
theorem dX8_offer_8 : decode cX8_offer 8 = .ok (.getfield 78, 3) := by decide +kernel
theorem dX8_offer_11 : decode cX8_offer 11 = .ok (.idiv, 1) := by decide +kernel
theorem dX8_offer_12 : decode cX8_offer 12 = .ok (.isub, 1) := by decide +kernel
theorem dX8_offer_13 : decode cX8_offer 13 = .ok (.iconst 1, 1) := by decide +kernel
theorem dX8_offer_14 : decode cX8_offer 14 = .ok (.iadd, 1) := by decide +kernel
theorem dX8_offer_15 : decode cX8_offer 15 = .ok (.iload_n 2, 1) := by decide +kernel
theorem dX8_offer_16 : decode cX8_offer 16 = .ok (.aload_n 0, 1) := by decide +kernel
theorem dX8_offer_17 : decode cX8_offer 17 = .ok (.getfield 78, 3) := by decide +kernel
theorem dX8_offer_20 : decode cX8_offer 20 = .ok (.irem, 1) := by decide +kernel
theorem dX8_offer_21 : decode cX8_offer 21 = .ok (.iload_n 1, 1) := by decide +kernel
theorem dX8_offer_22 : decode cX8_offer 22 = .ok (.aload_n 0, 1) := by decide +kernel
theorem dX8_offer_23 : decode cX8_offer 23 = .ok (.getfield 78, 3) := by decide +kernel
theorem dX8_offer_26 : decode cX8_offer 26 = .ok (.irem, 1) := by decide +kernel
theorem dX8_offer_27 : decode cX8_offer 27 = .ok (.isub, 1) := by decide +kernel
theorem dX8_offer_28 : decode cX8_offer 28 = .ok (.iconst 1, 1) := by decide +kernel
theorem dX8_offer_29 : decode cX8_offer 29 = .ok (.iadd, 1) := by decide +kernel
theorem dX8_offer_30 : decode cX8_offer 30 = .ok (.imul, 1) := by decide +kernel
theorem dX8_offer_31 : decode cX8_offer 31 = .ok (.istore 4, 2) := by decide +kernel
theorem dX8_offer_33 : decode cX8_offer 33 = .ok (.aload_n 0, 1) := by decide +kernel
theorem dX8_offer_34 : decode cX8_offer 34 = .ok (.getfield 201, 3) := by decide +kernel
theorem dX8_offer_37 : decode cX8_offer 37 = .ok (.bipush (-9), 2) := by decide +kernel
theorem dX8_offer_39 : decode cX8_offer 39 = .ok (.if_icmp .eq 12, 3) := by decide +kernel
theorem dX8_offer_42 : decode cX8_offer 42 = .ok (.iload 4, 2) := by decide +kernel
theorem dX8_offer_44 : decode cX8_offer 44 = .ok (.aload_n 0, 1) := by decide +kernel
theorem dX8_offer_45 : decode cX8_offer 45 = .ok (.getfield 201, 3) := by decide +kernel
theorem dX8_offer_48 : decode cX8_offer 48 = .ok (.if_icmp .ge 7, 3) := by decide +kernel
theorem dX8_offer_51 : decode cX8_offer 51 = .ok (.iconst 1, 1) := by decide +kernel
theorem dX8_offer_52 : decode cX8_offer 52 = .ok (.goto 4, 3) := by decide +kernel
theorem dX8_offer_55 : decode cX8_offer 55 = .ok (.iconst 0, 1) := by decide +kernel
theorem dX8_offer_56 : decode cX8_offer 56 = .ok (.istore 5, 2) := by decide +kernel
theorem dX8_offer_58 : decode cX8_offer 58 = .ok (.iload 5, 2) := by decide +kernel
theorem dX8_offer_60 : decode cX8_offer 60 = .ok (.ifCond .eq 29, 3) := by decide +kernel
theorem dX8_offer_63 : decode cX8_offer 63 = .ok (.aload_n 0, 1) := by decide +kernel
theorem dX8_offer_64 : decode cX8_offer 64 = .ok (.iload_n 1, 1) := by decide +kernel
theorem dX8_offer_65 : decode cX8_offer 65 = .ok (.iload_n 2, 1) := by decide +kernel
theorem dX8_offer_66 : decode cX8_offer 66 = .ok (.iload_n 3, 1) := by decide +kernel
theorem dX8_offer_67 : decode cX8_offer 67 = .ok (.invokevirtual 204, 3) := by decide +kernel
theorem dX8_offer_70 : decode cX8_offer 70 = .ok (.ifCond .ne 19, 3) := by decide +kernel
theorem dX8_offer_73 : decode cX8_offer 73 = .ok (.aload_n 0, 1) := by decide +kernel
theorem dX8_offer_74 : decode cX8_offer 74 = .ok (.iload 4, 2) := by decide +kernel
theorem dX8_offer_76 : decode cX8_offer 76 = .ok (.putfield 201, 3) := by decide +kernel
theorem dX8_offer_79 : decode cX8_offer 79 = .ok (.aload_n 0, 1) := by decide +kernel
theorem dX8_offer_80 : decode cX8_offer 80 = .ok (.iload_n 1, 1) := by decide +kernel
theorem dX8_offer_81 : decode cX8_offer 81 = .ok (.putfield 207, 3) := by decide +kernel
theorem dX8_offer_84 : decode cX8_offer 84 = .ok (.aload_n 0, 1) := by decide +kernel
theorem dX8_offer_85 : decode cX8_offer 85 = .ok (.iload_n 2, 1) := by decide +kernel
theorem dX8_offer_86 : decode cX8_offer 86 = .ok (.putfield 210, 3) := by decide +kernel
theorem dX8_offer_89 : decode cX8_offer 89 = .ok (.return_, 1) := by decide +kernel
set_option maxRecDepth 20000 in
theorem ggX8_findPatch_X8_all : GoodIn wsX8_findPatch wsX8_all := goodIn_r _ [7, 8, 2, 79, 80, 81, 82, 83, 84, 85, 86, 87, 88, 89, 90, 91, 92, 93, 94, 95, 96, 97, 98, 99, 100, 101, 102, 103, 104, 105, 106, 107, 108, 109, 110, 111, 112, 113] (by decide +kernel) (by decide +kernel)
set_option maxRecDepth 20000 in
theorem gX8_findPatch_X8_all : GoodIn wsX8_findPatch (wsV RX8 81 RX8 yX8_all wsX8_all) := goodIn_app (goodIn_of _ (by decide +kernel)) ggX8_findPatch_X8_all
set_option maxRecDepth 20000 in
theorem ggX8_findPatch_X8_offer : GoodIn wsX8_findPatch wsX8_offer := goodIn_r _ [12, 2, 1, 13, 14, 15, 16, 17, 6, 18, 19, 20, 21, 22, 23, 24, 25, 26, 27, 28, 3, 4, 5, 7, 8, 29, 30, 31, 32, 33, 34, 35, 36, 37, 38, 39, 40, 41, 42, 43, 44, 45, 46, 47, 48, 49, 50, 51, 52, 53, 54, 55, 56, 57, 58, 59, 60, 61, 62, 63, 64, 65, 66, 67, 68, 69, 70, 71, 72, 73, 74, 75, 76, 77, 78, 79, 80, 81, 82, 83, 84, 85, 86, 87, 88, 89, 90, 91, 92, 93, 94, 95, 96, 97, 98, 99, 100, 101, 102, 103, 104, 105, 106, 107, 108, 109, 110, 111, 112, 113] (by decide +kernel) (by decide +kernel)
set_option maxRecDepth 20000 in
theorem gX8_findPatch_X8_offer : GoodIn wsX8_findPatch (wsV RX8 213 RX8 yX8_offer wsX8_offer) := goodIn_app (goodIn_of _ (by decide +kernel)) ggX8_findPatch_X8_offer
theorem dX8_findPatch_0 : decode cX8_findPatch 0 = .ok (.aload_n 0, 1) := by decide +kernel
theorem dX8_findPatch_1 : decode cX8_findPatch 1 = .ok (.bipush (-9), 2) := by decide +kernel
theorem dX8_findPatch_3 : decode cX8_findPatch 3 = .ok (.putfield 201, 3) := by decide +kernel
theorem dX8_findPatch_6 : decode cX8_findPatch 6 = .ok (.iload_n 1, 1) := by decide +kernel
theorem dX8_findPatch_7 : decode cX8_findPatch 7 = .ok (.aload_n 0, 1) := by decide +kernel
theorem dX8_findPatch_8 : decode cX8_findPatch 8 = .ok (.getfield 78, 3) := by decide +kernel
theorem dX8_findPatch_11 : decode cX8_findPatch 11 = .ok (.idiv, 1) := by decide +kernel
theorem dX8_findPatch_12 : decode cX8_findPatch 12 = .ok (.istore_n 3, 1) := by decide +kernel
theorem dX8_findPatch_13 : decode cX8_findPatch 13 = .ok (.iload_n 1, 1) := by decide +kernel
theorem dX8_findPatch_14 : decode cX8_findPatch 14 = .ok (.aload_n 0, 1) := by decide +kernel
theorem dX8_findPatch_15 : decode cX8_findPatch 15 = .ok (.getfield 78, 3) := by decide +kernel
theorem dX8_findPatch_18 : decode cX8_findPatch 18 = .ok (.irem, 1) := by decide +kernel
theorem dX8_findPatch_19 : decode cX8_findPatch 19 = .ok (.istore 4, 2) := by decide +kernel
theorem dX8_findPatch_21 : decode cX8_findPatch 21 = .ok (.iconst 0, 1) := by decide +kernel
theorem dX8_findPatch_22 : decode cX8_findPatch 22 = .ok (.istore 5, 2) := by decide +kernel
theorem dX8_findPatch_24 : decode cX8_findPatch 24 = .ok (.iload 5, 2) := by decide +kernel
theorem dX8_findPatch_26 : decode cX8_findPatch 26 = .ok (.iload_n 1, 1) := by decide +kernel
theorem dX8_findPatch_27 : decode cX8_findPatch 27 = .ok (.if_icmp .gt 82, 3) := by decide +kernel
theorem dX8_findPatch_30 : decode cX8_findPatch 30 = .ok (.iload_n 1, 1) := by decide +kernel
theorem dX8_findPatch_31 : decode cX8_findPatch 31 = .ok (.istore 6, 2) := by decide +kernel
theorem dX8_findPatch_33 : decode cX8_findPatch 33 = .ok (.iload 6, 2) := by decide +kernel
theorem dX8_findPatch_35 : decode cX8_findPatch 35 = .ok (.aload_n 0, 1) := by decide +kernel
theorem dX8_findPatch_36 : decode cX8_findPatch 36 = .ok (.invokevirtual 81, 3) := by decide +kernel
theorem dX8_findPatch_39 : decode cX8_findPatch 39 = .ok (.if_icmp .ge 64, 3) := by decide +kernel
theorem dX8_findPatch_42 : decode cX8_findPatch 42 = .ok (.iload 5, 2) := by decide +kernel
theorem dX8_findPatch_44 : decode cX8_findPatch 44 = .ok (.aload_n 0, 1) := by decide +kernel
theorem dX8_findPatch_45 : decode cX8_findPatch 45 = .ok (.getfield 78, 3) := by decide +kernel
theorem dX8_findPatch_48 : decode cX8_findPatch 48 = .ok (.idiv, 1) := by decide +kernel
theorem dX8_findPatch_49 : decode cX8_findPatch 49 = .ok (.iload_n 3, 1) := by decide +kernel
theorem dX8_findPatch_50 : decode cX8_findPatch 50 = .ok (.if_icmp .gt 47, 3) := by decide +kernel
theorem dX8_findPatch_53 : decode cX8_findPatch 53 = .ok (.iload 5, 2) := by decide +kernel
theorem dX8_findPatch_55 : decode cX8_findPatch 55 = .ok (.aload_n 0, 1) := by decide +kernel
theorem dX8_findPatch_56 : decode cX8_findPatch 56 = .ok (.getfield 78, 3) := by decide +kernel
theorem dX8_findPatch_59 : decode cX8_findPatch 59 = .ok (.irem, 1) := by decide +kernel
theorem dX8_findPatch_60 : decode cX8_findPatch 60 = .ok (.iload 4, 2) := by decide +kernel
theorem dX8_findPatch_62 : decode cX8_findPatch 62 = .ok (.if_icmp .gt 35, 3) := by decide +kernel
theorem dX8_findPatch_65 : decode cX8_findPatch 65 = .ok (.iload 6, 2) := by decide +kernel
theorem dX8_findPatch_67 : decode cX8_findPatch 67 = .ok (.aload_n 0, 1) := by decide +kernel
theorem dX8_findPatch_68 : decode cX8_findPatch 68 = .ok (.getfield 78, 3) := by decide +kernel
theorem dX8_findPatch_71 : decode cX8_findPatch 71 = .ok (.idiv, 1) := by decide +kernel
theorem dX8_findPatch_72 : decode cX8_findPatch 72 = .ok (.iload_n 3, 1) := by decide +kernel
theorem dX8_findPatch_73 : decode cX8_findPatch 73 = .ok (.if_icmp .lt 24, 3) := by decide +kernel
theorem dX8_findPatch_76 : decode cX8_findPatch 76 = .ok (.iload 6, 2) := by decide +kernel
theorem dX8_findPatch_78 : decode cX8_findPatch 78 = .ok (.aload_n 0, 1) := by decide +kernel
theorem dX8_findPatch_79 : decode cX8_findPatch 79 = .ok (.getfield 78, 3) := by decide +kernel
theorem dX8_findPatch_82 : decode cX8_findPatch 82 = .ok (.irem, 1) := by decide +kernel
theorem dX8_findPatch_83 : decode cX8_findPatch 83 = .ok (.iload 4, 2) := by decide +kernel
theorem dX8_findPatch_85 : decode cX8_findPatch 85 = .ok (.if_icmp .lt 12, 3) := by decide +kernel
theorem dX8_findPatch_88 : decode cX8_findPatch 88 = .ok (.aload_n 0, 1) := by decide +kernel
theorem dX8_findPatch_89 : decode cX8_findPatch 89 = .ok (.iload 5, 2) := by decide +kernel
theorem dX8_findPatch_91 : decode cX8_findPatch 91 = .ok (.iload 6, 2) := by decide +kernel
theorem dX8_findPatch_93 : decode cX8_findPatch 93 = .ok (.iload_n 2, 1) := by decide +kernel
theorem dX8_findPatch_94 : decode cX8_findPatch 94 = .ok (.invokevirtual 213, 3) := by decide +kernel
theorem dX8_findPatch_97 : decode cX8_findPatch 97 = .ok (.iinc 6 1, 3) := by decide +kernel
theorem dX8_findPatch_100 : decode cX8_findPatch 100 = .ok (.goto (-67), 3) := by decide +kernel
theorem dX8_findPatch_103 : decode cX8_findPatch 103 = .ok (.iinc 5 1, 3) := by decide +kernel
theorem dX8_findPatch_106 : decode cX8_findPatch 106 = .ok (.goto (-82), 3) := by decide +kernel
theorem dX8_findPatch_109 : decode cX8_findPatch 109 = .ok (.return_, 1) := by decide +kernel
set_option maxRecDepth 20000 in
theorem ggX8_patch_X8_isCell : GoodIn wsX8_patch wsX8_isCell := goodIn_r _ [8, 9, 10, 11, 7, 12, 13, 14, 86, 87, 88, 89, 90, 91, 92, 93, 94, 95, 96, 97, 98, 99, 100, 101, 102, 103, 104, 105, 106, 107, 108, 109, 110, 111, 112, 113, 114, 115, 116, 117, 118, 119, 120] (by decide +kernel) (by decide +kernel)
set_option maxRecDepth 20000 in
theorem gX8_patch_X8_isCell : GoodIn wsX8_patch (wsV RX8 134 RX8 yX8_isCell wsX8_isCell) := goodIn_app (goodIn_of _ (by decide +kernel)) ggX8_patch_X8_isCell
set_option maxRecDepth 20000 in
theorem ggX8_patch_X8_isCoat : GoodIn wsX8_patch wsX8_isCoat := goodIn_r _ [18, 19, 86, 87, 88, 89, 90, 91, 92, 93, 94, 95, 96, 97, 98, 99, 100, 101, 102, 103, 104, 105, 106, 107, 108, 109, 110, 111, 112, 113, 114, 115, 116, 117, 118, 119, 120] (by decide +kernel) (by decide +kernel)
set_option maxRecDepth 20000 in
theorem gX8_patch_X8_isCoat : GoodIn wsX8_patch (wsV RX8 137 RX8 yX8_isCoat wsX8_isCoat) := goodIn_app (goodIn_of _ (by decide +kernel)) ggX8_patch_X8_isCoat
set_option maxRecDepth 20000 in
theorem ggX8_patch_X8_within : GoodIn wsX8_patch wsX8_within := goodIn_r _ [22] (by decide +kernel) (by decide +kernel)
set_option maxRecDepth 20000 in
theorem gX8_patch_X8_within : GoodIn wsX8_patch (va_wsS RX8 71 yX8_within wsX8_within) := goodIn_app (goodIn_of _ (by decide +kernel)) ggX8_patch_X8_within
set_option maxRecDepth 20000 in
theorem ggX8_patch_X8_findPatch : GoodIn wsX8_patch wsX8_findPatch := goodIn_r _ [26, 1, 14, 9, 10, 11, 7, 12, 13, 27, 28, 29, 30, 2, 3, 31, 32, 33, 34, 35, 36, 37, 38, 39, 40, 41, 42, 43, 44, 45, 46, 47, 48, 4, 5, 6, 8, 15, 16, 17, 18, 19, 49, 50, 51, 52, 53, 54, 55, 56, 57, 58, 59, 60, 61, 62, 63, 64, 65, 66, 67, 68, 69, 70, 71, 72, 73, 74, 75, 76, 77, 78, 79, 80, 81, 82, 83, 84, 85, 86, 87, 88, 89, 90, 91, 92, 93, 94, 95, 96, 97, 98, 99, 100, 101, 102, 103, 104, 105, 106, 107, 108, 109, 110, 111, 112, 113, 114, 115, 116, 117, 118, 119, 120] (by decide +kernel) (by decide +kernel)
set_option maxRecDepth 20000 in
theorem gX8_patch_X8_findPatch : GoodIn wsX8_patch (wsV RX8 217 RX8 yX8_findPatch wsX8_findPatch) := goodIn_app (goodIn_of _ (by decide +kernel)) ggX8_patch_X8_findPatch
theorem dX8_patch_0 : decode cX8_patch 0 = .ok (.aload_n 0, 1) := by decide +kernel
theorem dX8_patch_1 : decode cX8_patch 1 = .ok (.iload_n 1, 1) := by decide +kernel
theorem dX8_patch_2 : decode cX8_patch 2 = .ok (.invokevirtual 134, 3) := by decide +kernel
theorem dX8_patch_5 : decode cX8_patch 5 = .ok (.ifCond .eq 11, 3) := by decide +kernel
theorem dX8_patch_8 : decode cX8_patch 8 = .ok (.aload_n 0, 1) := by decide +kernel
theorem dX8_patch_9 : decode cX8_patch 9 = .ok (.iload_n 2, 1) := by decide +kernel
theorem dX8_patch_10 : decode cX8_patch 10 = .ok (.invokevirtual 137, 3) := by decide +kernel
theorem dX8_patch_13 : decode cX8_patch 13 = .ok (.ifCond .ne 5, 3) := by decide +kernel
theorem dX8_patch_16 : decode cX8_patch 16 = .ok (.iconst (-1), 1) := by decide +kernel
theorem dX8_patch_17 : decode cX8_patch 17 = .ok (.ireturn, 1) := by decide +kernel
theorem dX8_patch_18 : decode cX8_patch 18 = .ok (.iload_n 3, 1) := by decide +kernel
theorem dX8_patch_19 : decode cX8_patch 19 = .ok (.iconst 0, 1) := by decide +kernel
theorem dX8_patch_20 : decode cX8_patch 20 = .ok (.iconst 2, 1) := by decide +kernel
theorem dX8_patch_21 : decode cX8_patch 21 = .ok (.invokestatic 71, 3) := by decide +kernel
theorem dX8_patch_24 : decode cX8_patch 24 = .ok (.ifCond .ne 6, 3) := by decide +kernel
theorem dX8_patch_27 : decode cX8_patch 27 = .ok (.bipush (-2), 2) := by decide +kernel
theorem dX8_patch_29 : decode cX8_patch 29 = .ok (.ireturn, 1) := by decide +kernel
theorem dX8_patch_30 : decode cX8_patch 30 = .ok (.aload_n 0, 1) := by decide +kernel
theorem dX8_patch_31 : decode cX8_patch 31 = .ok (.iload_n 1, 1) := by decide +kernel
theorem dX8_patch_32 : decode cX8_patch 32 = .ok (.iload_n 2, 1) := by decide +kernel
theorem dX8_patch_33 : decode cX8_patch 33 = .ok (.invokevirtual 217, 3) := by decide +kernel
theorem dX8_patch_36 : decode cX8_patch 36 = .ok (.aload_n 0, 1) := by decide +kernel
theorem dX8_patch_37 : decode cX8_patch 37 = .ok (.getfield 201, 3) := by decide +kernel
theorem dX8_patch_40 : decode cX8_patch 40 = .ok (.bipush (-9), 2) := by decide +kernel
theorem dX8_patch_42 : decode cX8_patch 42 = .ok (.if_icmp .ne 8, 3) := by decide +kernel
theorem dX8_patch_45 : decode cX8_patch 45 = .ok (.bipush (-9), 2) := by decide +kernel
theorem dX8_patch_47 : decode cX8_patch 47 = .ok (.goto 30, 3) := by decide +kernel
theorem dX8_patch_50 : decode cX8_patch 50 = .ok (.iload_n 3, 1) := by decide +kernel
theorem dX8_patch_51 : decode cX8_patch 51 = .ok (.ifCond .ne 10, 3) := by decide +kernel
theorem dX8_patch_54 : decode cX8_patch 54 = .ok (.aload_n 0, 1) := by decide +kernel
theorem dX8_patch_55 : decode cX8_patch 55 = .ok (.getfield 201, 3) := by decide +kernel
theorem dX8_patch_58 : decode cX8_patch 58 = .ok (.goto 19, 3) := by decide +kernel
theorem dX8_patch_61 : decode cX8_patch 61 = .ok (.iload_n 3, 1) := by decide +kernel
theorem dX8_patch_62 : decode cX8_patch 62 = .ok (.iconst 1, 1) := by decide +kernel
theorem dX8_patch_63 : decode cX8_patch 63 = .ok (.if_icmp .ne 10, 3) := by decide +kernel
theorem dX8_patch_66 : decode cX8_patch 66 = .ok (.aload_n 0, 1) := by decide +kernel
theorem dX8_patch_67 : decode cX8_patch 67 = .ok (.getfield 207, 3) := by decide +kernel
theorem dX8_patch_70 : decode cX8_patch 70 = .ok (.goto 7, 3) := by decide +kernel
theorem dX8_patch_73 : decode cX8_patch 73 = .ok (.aload_n 0, 1) := by decide +kernel
theorem dX8_patch_74 : decode cX8_patch 74 = .ok (.getfield 210, 3) := by decide +kernel
theorem dX8_patch_77 : decode cX8_patch 77 = .ok (.ireturn, 1) := by decide +kernel
set_option maxRecDepth 20000 in
theorem ggX8_leave_X8_isCell : GoodIn wsX8_leave wsX8_isCell := goodIn_r _ [5, 6, 7, 8, 4, 9, 10, 11, 72, 73, 74, 75, 76, 77, 78, 79, 80, 81, 82, 83, 84, 85, 86, 87, 88, 89, 90, 91, 92, 93, 94, 95, 96, 97, 98, 99, 100, 101, 102, 103, 104, 105, 106] (by decide +kernel) (by decide +kernel)
set_option maxRecDepth 20000 in
theorem gX8_leave_X8_isCell : GoodIn wsX8_leave (wsV RX8 134 RX8 yX8_isCell wsX8_isCell) := goodIn_app (goodIn_of _ (by decide +kernel)) ggX8_leave_X8_isCell
set_option maxRecDepth 20000 in
theorem ggX8_leave_X8_isCoat : GoodIn wsX8_leave wsX8_isCoat := goodIn_r _ [15, 16, 72, 73, 74, 75, 76, 77, 78, 79, 80, 81, 82, 83, 84, 85, 86, 87, 88, 89, 90, 91, 92, 93, 94, 95, 96, 97, 98, 99, 100, 101, 102, 103, 104, 105, 106] (by decide +kernel) (by decide +kernel)
set_option maxRecDepth 20000 in
theorem gX8_leave_X8_isCoat : GoodIn wsX8_leave (wsV RX8 137 RX8 yX8_isCoat wsX8_isCoat) := goodIn_app (goodIn_of _ (by decide +kernel)) ggX8_leave_X8_isCoat
set_option maxRecDepth 20000 in
theorem ggX8_leave_X8_seenOf : GoodIn wsX8_leave wsX8_seenOf := goodIn_r _ [20, 11, 10, 6, 7, 8, 4, 9, 21, 22, 23, 24, 25, 26, 27, 28, 29, 30, 31, 32, 33, 34, 35, 36, 37, 38, 39, 40, 41, 42, 43, 44, 45, 46, 47, 48, 49, 50, 51, 52, 72, 73, 74, 75, 76, 77, 78, 79, 80, 81, 82, 83, 84, 85, 86, 87, 88, 89, 90, 91, 92, 93, 94, 95, 96, 97, 98, 99, 100, 101, 102, 103, 104, 105, 106] (by decide +kernel) (by decide +kernel)
set_option maxRecDepth 20000 in
theorem gX8_leave_X8_seenOf : GoodIn wsX8_leave (wsV RX8 165 RX8 yX8_seenOf wsX8_seenOf) := goodIn_app (goodIn_of _ (by decide +kernel)) ggX8_leave_X8_seenOf
set_option maxRecDepth 20000 in
theorem ggX8_leave_X8_seenWith : GoodIn wsX8_leave wsX8_seenWith := goodIn_r _ [56, 11, 57, 58, 59, 4, 60, 61, 31, 62, 32, 63, 33, 6, 7, 8, 9, 10, 64, 65, 66, 67, 1, 2, 3, 5, 12, 13, 14, 15, 16, 17, 18, 19, 20, 21, 22, 23, 24, 25, 26, 27, 28, 29, 30, 34, 35, 36, 37, 38, 39, 40, 41, 42, 43, 44, 45, 46, 47, 48, 49, 50, 51, 52, 68, 69, 70, 71, 72, 73, 74, 75, 76, 77, 78, 79, 80, 81, 82, 83, 84, 85, 86, 87, 88, 89, 90, 91, 92, 93, 94, 95, 96, 97, 98, 99, 100, 101, 102, 103, 104, 105, 106] (by decide +kernel) (by decide +kernel)
set_option maxRecDepth 20000 in
theorem gX8_leave_X8_seenWith : GoodIn wsX8_leave (wsV RX8 204 RX8 yX8_seenWith wsX8_seenWith) := goodIn_app (goodIn_of _ (by decide +kernel)) ggX8_leave_X8_seenWith
theorem dX8_leave_0 : decode cX8_leave 0 = .ok (.aload_n 0, 1) := by decide +kernel
theorem dX8_leave_1 : decode cX8_leave 1 = .ok (.iload_n 1, 1) := by decide +kernel
theorem dX8_leave_2 : decode cX8_leave 2 = .ok (.invokevirtual 134, 3) := by decide +kernel
theorem dX8_leave_5 : decode cX8_leave 5 = .ok (.ifCond .eq 11, 3) := by decide +kernel
theorem dX8_leave_8 : decode cX8_leave 8 = .ok (.aload_n 0, 1) := by decide +kernel
theorem dX8_leave_9 : decode cX8_leave 9 = .ok (.iload_n 2, 1) := by decide +kernel
theorem dX8_leave_10 : decode cX8_leave 10 = .ok (.invokevirtual 137, 3) := by decide +kernel
theorem dX8_leave_13 : decode cX8_leave 13 = .ok (.ifCond .ne 5, 3) := by decide +kernel
theorem dX8_leave_16 : decode cX8_leave 16 = .ok (.iconst (-1), 1) := by decide +kernel
theorem dX8_leave_17 : decode cX8_leave 17 = .ok (.ireturn, 1) := by decide +kernel
theorem dX8_leave_18 : decode cX8_leave 18 = .ok (.aload_n 0, 1) := by decide +kernel
theorem dX8_leave_19 : decode cX8_leave 19 = .ok (.bipush (-9), 2) := by decide +kernel
theorem dX8_leave_21 : decode cX8_leave 21 = .ok (.invokevirtual 165, 3) := by decide +kernel
theorem dX8_leave_24 : decode cX8_leave 24 = .ok (.aload_n 0, 1) := by decide +kernel
theorem dX8_leave_25 : decode cX8_leave 25 = .ok (.iload_n 1, 1) := by decide +kernel
theorem dX8_leave_26 : decode cX8_leave 26 = .ok (.iload_n 1, 1) := by decide +kernel
theorem dX8_leave_27 : decode cX8_leave 27 = .ok (.iload_n 2, 1) := by decide +kernel
theorem dX8_leave_28 : decode cX8_leave 28 = .ok (.invokevirtual 204, 3) := by decide +kernel
theorem dX8_leave_31 : decode cX8_leave 31 = .ok (.isub, 1) := by decide +kernel
theorem dX8_leave_32 : decode cX8_leave 32 = .ok (.bipush 100, 2) := by decide +kernel
theorem dX8_leave_34 : decode cX8_leave 34 = .ok (.iadd, 1) := by decide +kernel
theorem dX8_leave_35 : decode cX8_leave 35 = .ok (.ireturn, 1) := by decide +kernel
set_option maxRecDepth 20000 in
theorem ggX8_on_X8_isCell : GoodIn wsX8_on wsX8_isCell := goodIn_r _ [10, 11, 12, 13, 9, 14, 15, 16, 41, 42, 43, 44, 45, 46, 47, 48, 49, 50, 51, 52, 53, 54, 55, 56, 57, 58, 59, 60, 61, 62, 63, 64, 65, 66, 67, 68, 69, 70, 71, 72, 73, 74, 75] (by decide +kernel) (by decide +kernel)
set_option maxRecDepth 20000 in
theorem gX8_on_X8_isCell : GoodIn wsX8_on (wsV RX8 134 RX8 yX8_isCell wsX8_isCell) := goodIn_app (goodIn_of _ (by decide +kernel)) ggX8_on_X8_isCell
set_option maxRecDepth 20000 in
theorem ggX8_on_X8_isLight : GoodIn wsX8_on wsX8_isLight := goodIn_r _ [20, 21, 41, 42, 43, 44, 45, 46, 47, 48, 49, 50, 51, 52, 53, 54, 55, 56, 57, 58, 59, 60, 61, 62, 63, 64, 65, 66, 67, 68, 69, 70, 71, 72, 73, 74, 75] (by decide +kernel) (by decide +kernel)
set_option maxRecDepth 20000 in
theorem gX8_on_X8_isLight : GoodIn wsX8_on (wsV RX8 151 RX8 yX8_isLight wsX8_isLight) := goodIn_app (goodIn_of _ (by decide +kernel)) ggX8_on_X8_isLight
set_option maxRecDepth 20000 in
theorem ggX8_on_X8_within : GoodIn wsX8_on wsX8_within := goodIn_r _ [24] (by decide +kernel) (by decide +kernel)
set_option maxRecDepth 20000 in
theorem gX8_on_X8_within : GoodIn wsX8_on (va_wsS RX8 71 yX8_within wsX8_within) := goodIn_app (goodIn_of _ (by decide +kernel)) ggX8_on_X8_within
set_option maxRecDepth 20000 in
theorem ggX8_on_X8_lookOf : GoodIn wsX8_on wsX8_lookOf := goodIn_r _ [28, 29, 30, 31, 32, 9, 33, 34, 35, 36, 37, 38, 39, 40, 41, 42, 43, 44, 45, 46, 47, 48, 49, 50, 51, 52, 53, 54, 55, 56, 57, 58, 59, 60, 61, 62, 63, 64, 65, 66, 67, 68, 69, 70, 71, 72, 73, 74, 75] (by decide +kernel) (by decide +kernel)
set_option maxRecDepth 20000 in
theorem gX8_on_X8_lookOf : GoodIn wsX8_on (wsV RX8 148 RX8 yX8_lookOf wsX8_lookOf) := goodIn_app (goodIn_of _ (by decide +kernel)) ggX8_on_X8_lookOf
theorem dX8_on_0 : decode cX8_on 0 = .ok (.aload_n 0, 1) := by decide +kernel
theorem dX8_on_1 : decode cX8_on 1 = .ok (.iload_n 1, 1) := by decide +kernel
theorem dX8_on_2 : decode cX8_on 2 = .ok (.invokevirtual 134, 3) := by decide +kernel
theorem dX8_on_5 : decode cX8_on 5 = .ok (.ifCond .eq 11, 3) := by decide +kernel
theorem dX8_on_8 : decode cX8_on 8 = .ok (.aload_n 0, 1) := by decide +kernel
theorem dX8_on_9 : decode cX8_on 9 = .ok (.iload_n 2, 1) := by decide +kernel
theorem dX8_on_10 : decode cX8_on 10 = .ok (.invokevirtual 151, 3) := by decide +kernel
theorem dX8_on_13 : decode cX8_on 13 = .ok (.ifCond .ne 5, 3) := by decide +kernel
theorem dX8_on_16 : decode cX8_on 16 = .ok (.iconst (-1), 1) := by decide +kernel
theorem dX8_on_17 : decode cX8_on 17 = .ok (.ireturn, 1) := by decide +kernel
theorem dX8_on_18 : decode cX8_on 18 = .ok (.iload_n 3, 1) := by decide +kernel
theorem dX8_on_19 : decode cX8_on 19 = .ok (.iconst 0, 1) := by decide +kernel
theorem dX8_on_20 : decode cX8_on 20 = .ok (.bipush 40, 2) := by decide +kernel
theorem dX8_on_22 : decode cX8_on 22 = .ok (.invokestatic 71, 3) := by decide +kernel
theorem dX8_on_25 : decode cX8_on 25 = .ok (.ifCond .ne 6, 3) := by decide +kernel
theorem dX8_on_28 : decode cX8_on 28 = .ok (.bipush (-2), 2) := by decide +kernel
theorem dX8_on_30 : decode cX8_on 30 = .ok (.ireturn, 1) := by decide +kernel
theorem dX8_on_31 : decode cX8_on 31 = .ok (.aload_n 0, 1) := by decide +kernel
theorem dX8_on_32 : decode cX8_on 32 = .ok (.getfield 31, 3) := by decide +kernel
theorem dX8_on_35 : decode cX8_on 35 = .ok (.iload_n 1, 1) := by decide +kernel
theorem dX8_on_36 : decode cX8_on 36 = .ok (.baload, 1) := by decide +kernel
theorem dX8_on_37 : decode cX8_on 37 = .ok (.ifCond .eq 7, 3) := by decide +kernel
theorem dX8_on_40 : decode cX8_on 40 = .ok (.iconst 0, 1) := by decide +kernel
theorem dX8_on_41 : decode cX8_on 41 = .ok (.goto 4, 3) := by decide +kernel
theorem dX8_on_44 : decode cX8_on 44 = .ok (.iload_n 3, 1) := by decide +kernel
theorem dX8_on_45 : decode cX8_on 45 = .ok (.istore 4, 2) := by decide +kernel
theorem dX8_on_47 : decode cX8_on 47 = .ok (.aload_n 0, 1) := by decide +kernel
theorem dX8_on_48 : decode cX8_on 48 = .ok (.aload_n 0, 1) := by decide +kernel
theorem dX8_on_49 : decode cX8_on 49 = .ok (.getfield 22, 3) := by decide +kernel
theorem dX8_on_52 : decode cX8_on 52 = .ok (.iload_n 1, 1) := by decide +kernel
theorem dX8_on_53 : decode cX8_on 53 = .ok (.iaload, 1) := by decide +kernel
theorem dX8_on_54 : decode cX8_on 54 = .ok (.aload_n 0, 1) := by decide +kernel
theorem dX8_on_55 : decode cX8_on 55 = .ok (.getfield 25, 3) := by decide +kernel
theorem dX8_on_58 : decode cX8_on 58 = .ok (.iload_n 1, 1) := by decide +kernel
theorem dX8_on_59 : decode cX8_on 59 = .ok (.iaload, 1) := by decide +kernel
theorem dX8_on_60 : decode cX8_on 60 = .ok (.iload 4, 2) := by decide +kernel
theorem dX8_on_62 : decode cX8_on 62 = .ok (.aload_n 0, 1) := by decide +kernel
theorem dX8_on_63 : decode cX8_on 63 = .ok (.getfield 19, 3) := by decide +kernel
theorem dX8_on_66 : decode cX8_on 66 = .ok (.iload_n 1, 1) := by decide +kernel
theorem dX8_on_67 : decode cX8_on 67 = .ok (.iaload, 1) := by decide +kernel
theorem dX8_on_68 : decode cX8_on 68 = .ok (.imul, 1) := by decide +kernel
theorem dX8_on_69 : decode cX8_on 69 = .ok (.iadd, 1) := by decide +kernel
theorem dX8_on_70 : decode cX8_on 70 = .ok (.aload_n 0, 1) := by decide +kernel
theorem dX8_on_71 : decode cX8_on 71 = .ok (.getfield 28, 3) := by decide +kernel
theorem dX8_on_74 : decode cX8_on 74 = .ok (.iload_n 1, 1) := by decide +kernel
theorem dX8_on_75 : decode cX8_on 75 = .ok (.iaload, 1) := by decide +kernel
theorem dX8_on_76 : decode cX8_on 76 = .ok (.iload 4, 2) := by decide +kernel
theorem dX8_on_78 : decode cX8_on 78 = .ok (.iadd, 1) := by decide +kernel
theorem dX8_on_79 : decode cX8_on 79 = .ok (.iload_n 2, 1) := by decide +kernel
theorem dX8_on_80 : decode cX8_on 80 = .ok (.iconst 0, 1) := by decide +kernel
theorem dX8_on_81 : decode cX8_on 81 = .ok (.invokevirtual 148, 3) := by decide +kernel
theorem dX8_on_84 : decode cX8_on 84 = .ok (.ireturn, 1) := by decide +kernel
set_option maxRecDepth 20000 in
theorem ggX8_hide_X8_within : GoodIn wsX8_hide wsX8_within := goodIn_r _ [4] (by decide +kernel) (by decide +kernel)
set_option maxRecDepth 20000 in
theorem gX8_hide_X8_within : GoodIn wsX8_hide (va_wsS RX8 71 yX8_within wsX8_within) := goodIn_app (goodIn_of _ (by decide +kernel)) ggX8_hide_X8_within
set_option maxRecDepth 20000 in
theorem ggX8_hide_X8_all : GoodIn wsX8_hide wsX8_all := goodIn_r _ [8, 9, 10, 47, 48, 49, 50, 51, 52, 53, 54, 55, 56, 57, 58, 59, 60, 61, 62, 63, 64, 65, 66, 67, 68, 69, 70, 71, 72, 73, 74, 75, 76, 77, 78, 79, 80, 81] (by decide +kernel) (by decide +kernel)
set_option maxRecDepth 20000 in
theorem gX8_hide_X8_all : GoodIn wsX8_hide (wsV RX8 81 RX8 yX8_all wsX8_all) := goodIn_app (goodIn_of _ (by decide +kernel)) ggX8_hide_X8_all
set_option maxRecDepth 20000 in
theorem ggX8_hide_X8_seenOf : GoodIn wsX8_hide wsX8_seenOf := goodIn_r _ [14, 10, 9, 5, 6, 7, 3, 8, 15, 16, 17, 18, 19, 20, 21, 22, 23, 24, 25, 26, 27, 28, 29, 30, 31, 32, 33, 34, 35, 36, 37, 38, 39, 40, 41, 42, 43, 44, 45, 46, 47, 48, 49, 50, 51, 52, 53, 54, 55, 56, 57, 58, 59, 60, 61, 62, 63, 64, 65, 66, 67, 68, 69, 70, 71, 72, 73, 74, 75, 76, 77, 78, 79, 80, 81] (by decide +kernel) (by decide +kernel)
set_option maxRecDepth 20000 in
theorem gX8_hide_X8_seenOf : GoodIn wsX8_hide (wsV RX8 165 RX8 yX8_seenOf wsX8_seenOf) := goodIn_app (goodIn_of _ (by decide +kernel)) ggX8_hide_X8_seenOf
theorem dX8_hide_0 : decode cX8_hide 0 = .ok (.iload_n 1, 1) := by decide +kernel
theorem dX8_hide_1 : decode cX8_hide 1 = .ok (.iconst 0, 1) := by decide +kernel
theorem dX8_hide_2 : decode cX8_hide 2 = .ok (.iconst 1, 1) := by decide +kernel
theorem dX8_hide_3 : decode cX8_hide 3 = .ok (.invokestatic 71, 3) := by decide +kernel
theorem dX8_hide_6 : decode cX8_hide 6 = .ok (.ifCond .ne 6, 3) := by decide +kernel
theorem dX8_hide_9 : decode cX8_hide 9 = .ok (.bipush (-2), 2) := by decide +kernel
theorem dX8_hide_11 : decode cX8_hide 11 = .ok (.ireturn, 1) := by decide +kernel
theorem dX8_hide_12 : decode cX8_hide 12 = .ok (.aload_n 0, 1) := by decide +kernel
theorem dX8_hide_13 : decode cX8_hide 13 = .ok (.invokevirtual 81, 3) := by decide +kernel
theorem dX8_hide_16 : decode cX8_hide 16 = .ok (.ifCond .ne 6, 3) := by decide +kernel
theorem dX8_hide_19 : decode cX8_hide 19 = .ok (.bipush (-3), 2) := by decide +kernel
theorem dX8_hide_21 : decode cX8_hide 21 = .ok (.ireturn, 1) := by decide +kernel
theorem dX8_hide_22 : decode cX8_hide 22 = .ok (.iconst 0, 1) := by decide +kernel
theorem dX8_hide_23 : decode cX8_hide 23 = .ok (.istore_n 2, 1) := by decide +kernel
theorem dX8_hide_24 : decode cX8_hide 24 = .ok (.iconst (-1), 1) := by decide +kernel
theorem dX8_hide_25 : decode cX8_hide 25 = .ok (.istore_n 3, 1) := by decide +kernel
theorem dX8_hide_26 : decode cX8_hide 26 = .ok (.iconst 0, 1) := by decide +kernel
theorem dX8_hide_27 : decode cX8_hide 27 = .ok (.istore 4, 2) := by decide +kernel
theorem dX8_hide_29 : decode cX8_hide 29 = .ok (.iload 4, 2) := by decide +kernel
theorem dX8_hide_31 : decode cX8_hide 31 = .ok (.aload_n 0, 1) := by decide +kernel
theorem dX8_hide_32 : decode cX8_hide 32 = .ok (.invokevirtual 81, 3) := by decide +kernel
theorem dX8_hide_35 : decode cX8_hide 35 = .ok (.if_icmp .ge 29, 3) := by decide +kernel
theorem dX8_hide_38 : decode cX8_hide 38 = .ok (.aload_n 0, 1) := by decide +kernel
theorem dX8_hide_39 : decode cX8_hide 39 = .ok (.iload 4, 2) := by decide +kernel
theorem dX8_hide_41 : decode cX8_hide 41 = .ok (.invokevirtual 165, 3) := by decide +kernel
theorem dX8_hide_44 : decode cX8_hide 44 = .ok (.istore 5, 2) := by decide +kernel
theorem dX8_hide_46 : decode cX8_hide 46 = .ok (.iload 5, 2) := by decide +kernel
theorem dX8_hide_48 : decode cX8_hide 48 = .ok (.iload_n 3, 1) := by decide +kernel
theorem dX8_hide_49 : decode cX8_hide 49 = .ok (.if_icmp .le 9, 3) := by decide +kernel
theorem dX8_hide_52 : decode cX8_hide 52 = .ok (.iload 5, 2) := by decide +kernel
theorem dX8_hide_54 : decode cX8_hide 54 = .ok (.istore_n 3, 1) := by decide +kernel
theorem dX8_hide_55 : decode cX8_hide 55 = .ok (.iload 4, 2) := by decide +kernel
theorem dX8_hide_57 : decode cX8_hide 57 = .ok (.istore_n 2, 1) := by decide +kernel
theorem dX8_hide_58 : decode cX8_hide 58 = .ok (.iinc 4 1, 3) := by decide +kernel
theorem dX8_hide_61 : decode cX8_hide 61 = .ok (.goto (-32), 3) := by decide +kernel
theorem dX8_hide_64 : decode cX8_hide 64 = .ok (.iload_n 1, 1) := by decide +kernel
theorem dX8_hide_65 : decode cX8_hide 65 = .ok (.ifCond .ne 7, 3) := by decide +kernel
theorem dX8_hide_68 : decode cX8_hide 68 = .ok (.iload_n 2, 1) := by decide +kernel
theorem dX8_hide_69 : decode cX8_hide 69 = .ok (.goto 4, 3) := by decide +kernel
theorem dX8_hide_72 : decode cX8_hide 72 = .ok (.iload_n 3, 1) := by decide +kernel
theorem dX8_hide_73 : decode cX8_hide 73 = .ok (.ireturn, 1) := by decide +kernel
set_option maxRecDepth 20000 in
theorem ggX8_isSo_X8_comesOf : GoodIn wsX8_isSo wsX8_comesOf := goodIn_r _ [6, 7, 8, 9, 10, 11, 5, 12, 13, 14, 15, 16, 17, 18, 19, 20, 21, 22, 23, 24, 25, 26, 27, 28, 29, 30, 31, 32, 33, 34, 35, 36, 37, 38, 39, 40, 41, 42, 43, 44, 45, 46, 47, 48] (by decide +kernel) (by decide +kernel)
set_option maxRecDepth 20000 in
theorem gX8_isSo_X8_comesOf : GoodIn wsX8_isSo (wsV RX8 144 RX8 yX8_comesOf wsX8_comesOf) := goodIn_app (goodIn_of _ (by decide +kernel)) ggX8_isSo_X8_comesOf
theorem dX8_isSo_0 : decode cX8_isSo 0 = .ok (.iconst 0, 1) := by decide +kernel
theorem dX8_isSo_1 : decode cX8_isSo 1 = .ok (.istore 5, 2) := by decide +kernel
theorem dX8_isSo_3 : decode cX8_isSo 3 = .ok (.iload 5, 2) := by decide +kernel
theorem dX8_isSo_5 : decode cX8_isSo 5 = .ok (.iconst 3, 1) := by decide +kernel
theorem dX8_isSo_6 : decode cX8_isSo 6 = .ok (.if_icmp .ge 36, 3) := by decide +kernel
theorem dX8_isSo_9 : decode cX8_isSo 9 = .ok (.aload_n 0, 1) := by decide +kernel
theorem dX8_isSo_10 : decode cX8_isSo 10 = .ok (.iload_n 1, 1) := by decide +kernel
theorem dX8_isSo_11 : decode cX8_isSo 11 = .ok (.iload 5, 2) := by decide +kernel
theorem dX8_isSo_13 : decode cX8_isSo 13 = .ok (.iload_n 2, 1) := by decide +kernel
theorem dX8_isSo_14 : decode cX8_isSo 14 = .ok (.iload_n 3, 1) := by decide +kernel
theorem dX8_isSo_15 : decode cX8_isSo 15 = .ok (.imul, 1) := by decide +kernel
theorem dX8_isSo_16 : decode cX8_isSo 16 = .ok (.iload_n 3, 1) := by decide +kernel
theorem dX8_isSo_17 : decode cX8_isSo 17 = .ok (.iconst 0, 1) := by decide +kernel
theorem dX8_isSo_18 : decode cX8_isSo 18 = .ok (.invokevirtual 144, 3) := by decide +kernel
theorem dX8_isSo_21 : decode cX8_isSo 21 = .ok (.aload_n 0, 1) := by decide +kernel
theorem dX8_isSo_22 : decode cX8_isSo 22 = .ok (.getfield 16, 3) := by decide +kernel
theorem dX8_isSo_25 : decode cX8_isSo 25 = .ok (.iload 4, 2) := by decide +kernel
theorem dX8_isSo_27 : decode cX8_isSo 27 = .ok (.iload 5, 2) := by decide +kernel
theorem dX8_isSo_29 : decode cX8_isSo 29 = .ok (.iadd, 1) := by decide +kernel
theorem dX8_isSo_30 : decode cX8_isSo 30 = .ok (.iaload, 1) := by decide +kernel
theorem dX8_isSo_31 : decode cX8_isSo 31 = .ok (.if_icmp .eq 5, 3) := by decide +kernel
theorem dX8_isSo_34 : decode cX8_isSo 34 = .ok (.iconst 0, 1) := by decide +kernel
theorem dX8_isSo_35 : decode cX8_isSo 35 = .ok (.ireturn, 1) := by decide +kernel
theorem dX8_isSo_36 : decode cX8_isSo 36 = .ok (.iinc 5 1, 3) := by decide +kernel
theorem dX8_isSo_39 : decode cX8_isSo 39 = .ok (.goto (-36), 3) := by decide +kernel
theorem dX8_isSo_42 : decode cX8_isSo 42 = .ok (.iconst 1, 1) := by decide +kernel
theorem dX8_isSo_43 : decode cX8_isSo 43 = .ok (.ireturn, 1) := by decide +kernel
set_option maxRecDepth 20000 in
theorem ggX8_hung_X8_isCoat : GoodIn wsX8_hung wsX8_isCoat := goodIn_r _ [7, 8, 44, 45, 46, 47, 48, 49, 50, 51, 52, 53, 54, 55, 56, 57, 58, 59, 60, 61, 62, 63, 64, 65, 66, 67, 68, 69, 70, 71, 72, 73, 74, 75, 76, 77, 78] (by decide +kernel) (by decide +kernel)
set_option maxRecDepth 20000 in
theorem gX8_hung_X8_isCoat : GoodIn wsX8_hung (wsV RX8 137 RX8 yX8_isCoat wsX8_isCoat) := goodIn_app (goodIn_of _ (by decide +kernel)) ggX8_hung_X8_isCoat
set_option maxRecDepth 20000 in
theorem ggX8_hung_X8_isSheet : GoodIn wsX8_hung wsX8_isSheet := goodIn_r _ [11, 12, 13, 6, 14] (by decide +kernel) (by decide +kernel)
set_option maxRecDepth 20000 in
theorem gX8_hung_X8_isSheet : GoodIn wsX8_hung (va_wsS RX8 88 yX8_isSheet wsX8_isSheet) := goodIn_app (goodIn_of _ (by decide +kernel)) ggX8_hung_X8_isSheet
set_option maxRecDepth 20000 in
theorem ggX8_hung_X8_within : GoodIn wsX8_hung wsX8_within := goodIn_r _ [14] (by decide +kernel) (by decide +kernel)
set_option maxRecDepth 20000 in
theorem gX8_hung_X8_within : GoodIn wsX8_hung (va_wsS RX8 71 yX8_within wsX8_within) := goodIn_app (goodIn_of _ (by decide +kernel)) ggX8_hung_X8_within
set_option maxRecDepth 20000 in
theorem ggX8_hung_X8_isSort : GoodIn wsX8_hung wsX8_isSort := goodIn_r _ [17, 12, 13, 6, 14] (by decide +kernel) (by decide +kernel)
set_option maxRecDepth 20000 in
theorem gX8_hung_X8_isSort : GoodIn wsX8_hung (va_wsS RX8 92 yX8_isSort wsX8_isSort) := goodIn_app (goodIn_of _ (by decide +kernel)) ggX8_hung_X8_isSort
set_option maxRecDepth 20000 in
theorem ggX8_hung_X8_against : GoodIn wsX8_hung wsX8_against := goodIn_r _ [21, 22, 23, 44, 45, 46, 47, 48, 49, 50, 51, 52, 53, 54, 55, 56, 57, 58, 59, 60, 61, 62, 63, 64, 65, 66, 67, 68, 69, 70, 71, 72, 73, 74, 75, 76, 77, 78] (by decide +kernel) (by decide +kernel)
set_option maxRecDepth 20000 in
theorem gX8_hung_X8_against : GoodIn wsX8_hung (wsV RX8 95 RX8 yX8_against wsX8_against) := goodIn_app (goodIn_of _ (by decide +kernel)) ggX8_hung_X8_against
set_option maxRecDepth 20000 in
theorem ggX8_hung_X8_fails : GoodIn wsX8_hung wsX8_fails := goodIn_r _ [27, 1, 44, 45, 46, 47, 48, 49, 50, 51, 52, 53, 54, 55, 56, 57, 58, 59, 60, 61, 62, 63, 64, 65, 66, 67, 68, 69, 70, 71, 72, 73, 74, 75, 76, 77, 78] (by decide +kernel) (by decide +kernel)
set_option maxRecDepth 20000 in
theorem gX8_hung_X8_fails : GoodIn wsX8_hung (wsV RX8 99 RX8 yX8_fails wsX8_fails) := goodIn_app (goodIn_of _ (by decide +kernel)) ggX8_hung_X8_fails
set_option maxRecDepth 20000 in
theorem ggX8_hung_X8_isSo : GoodIn wsX8_hung wsX8_isSo := goodIn_r _ [31, 32, 33, 34, 35, 6, 36, 37, 38, 39, 40, 41, 42, 43, 44, 45, 46, 47, 48, 49, 50, 51, 52, 53, 54, 55, 56, 57, 58, 59, 60, 61, 62, 63, 64, 65, 66, 67, 68, 69, 70, 71, 72, 73, 74, 75, 76, 77, 78] (by decide +kernel) (by decide +kernel)
set_option maxRecDepth 20000 in
theorem gX8_hung_X8_isSo : GoodIn wsX8_hung (wsV RX8 221 RX8 yX8_isSo wsX8_isSo) := goodIn_app (goodIn_of _ (by decide +kernel)) ggX8_hung_X8_isSo
theorem dX8_hung_0 : decode cX8_hung 0 = .ok (.aload_n 0, 1) := by decide +kernel
theorem dX8_hung_1 : decode cX8_hung 1 = .ok (.iconst 0, 1) := by decide +kernel
theorem dX8_hung_2 : decode cX8_hung 2 = .ok (.putfield 65, 3) := by decide +kernel
theorem dX8_hung_5 : decode cX8_hung 5 = .ok (.aload_n 0, 1) := by decide +kernel
theorem dX8_hung_6 : decode cX8_hung 6 = .ok (.iload_n 1, 1) := by decide +kernel
theorem dX8_hung_7 : decode cX8_hung 7 = .ok (.invokevirtual 137, 3) := by decide +kernel
theorem dX8_hung_10 : decode cX8_hung 10 = .ok (.ifCond .eq 10, 3) := by decide +kernel
theorem dX8_hung_13 : decode cX8_hung 13 = .ok (.iload_n 3, 1) := by decide +kernel
theorem dX8_hung_14 : decode cX8_hung 14 = .ok (.invokestatic 88, 3) := by decide +kernel
theorem dX8_hung_17 : decode cX8_hung 17 = .ok (.ifCond .ne 5, 3) := by decide +kernel
theorem dX8_hung_20 : decode cX8_hung 20 = .ok (.iconst (-1), 1) := by decide +kernel
theorem dX8_hung_21 : decode cX8_hung 21 = .ok (.ireturn, 1) := by decide +kernel
theorem dX8_hung_22 : decode cX8_hung 22 = .ok (.iload_n 2, 1) := by decide +kernel
theorem dX8_hung_23 : decode cX8_hung 23 = .ok (.iconst 0, 1) := by decide +kernel
theorem dX8_hung_24 : decode cX8_hung 24 = .ok (.bipush 9, 2) := by decide +kernel
theorem dX8_hung_26 : decode cX8_hung 26 = .ok (.invokestatic 71, 3) := by decide +kernel
theorem dX8_hung_29 : decode cX8_hung 29 = .ok (.ifCond .eq 21, 3) := by decide +kernel
theorem dX8_hung_32 : decode cX8_hung 32 = .ok (.iload 6, 2) := by decide +kernel
theorem dX8_hung_34 : decode cX8_hung 34 = .ok (.iconst 0, 1) := by decide +kernel
theorem dX8_hung_35 : decode cX8_hung 35 = .ok (.iconst 2, 1) := by decide +kernel
theorem dX8_hung_36 : decode cX8_hung 36 = .ok (.invokestatic 71, 3) := by decide +kernel
theorem dX8_hung_39 : decode cX8_hung 39 = .ok (.ifCond .eq 11, 3) := by decide +kernel
theorem dX8_hung_42 : decode cX8_hung 42 = .ok (.iload 4, 2) := by decide +kernel
theorem dX8_hung_44 : decode cX8_hung 44 = .ok (.invokestatic 92, 3) := by decide +kernel
theorem dX8_hung_47 : decode cX8_hung 47 = .ok (.ifCond .ne 6, 3) := by decide +kernel
theorem dX8_hung_50 : decode cX8_hung 50 = .ok (.bipush (-2), 2) := by decide +kernel
theorem dX8_hung_52 : decode cX8_hung 52 = .ok (.ireturn, 1) := by decide +kernel
theorem dX8_hung_53 : decode cX8_hung 53 = .ok (.aload_n 0, 1) := by decide +kernel
theorem dX8_hung_54 : decode cX8_hung 54 = .ok (.iload_n 3, 1) := by decide +kernel
theorem dX8_hung_55 : decode cX8_hung 55 = .ok (.iload 4, 2) := by decide +kernel
theorem dX8_hung_57 : decode cX8_hung 57 = .ok (.iload 5, 2) := by decide +kernel
theorem dX8_hung_59 : decode cX8_hung 59 = .ok (.iconst 3, 1) := by decide +kernel
theorem dX8_hung_60 : decode cX8_hung 60 = .ok (.invokevirtual 95, 3) := by decide +kernel
theorem dX8_hung_63 : decode cX8_hung 63 = .ok (.istore 7, 2) := by decide +kernel
theorem dX8_hung_65 : decode cX8_hung 65 = .ok (.iload 7, 2) := by decide +kernel
theorem dX8_hung_67 : decode cX8_hung 67 = .ok (.ifCond .eq 10, 3) := by decide +kernel
theorem dX8_hung_70 : decode cX8_hung 70 = .ok (.aload_n 0, 1) := by decide +kernel
theorem dX8_hung_71 : decode cX8_hung 71 = .ok (.iload 7, 2) := by decide +kernel
theorem dX8_hung_73 : decode cX8_hung 73 = .ok (.invokevirtual 99, 3) := by decide +kernel
theorem dX8_hung_76 : decode cX8_hung 76 = .ok (.ireturn, 1) := by decide +kernel
theorem dX8_hung_77 : decode cX8_hung 77 = .ok (.iconst 0, 1) := by decide +kernel
theorem dX8_hung_78 : decode cX8_hung 78 = .ok (.istore 8, 2) := by decide +kernel
theorem dX8_hung_80 : decode cX8_hung 80 = .ok (.bipush (-9), 2) := by decide +kernel
theorem dX8_hung_82 : decode cX8_hung 82 = .ok (.istore 9, 2) := by decide +kernel
theorem dX8_hung_84 : decode cX8_hung 84 = .ok (.bipush (-9), 2) := by decide +kernel
theorem dX8_hung_86 : decode cX8_hung 86 = .ok (.istore 10, 2) := by decide +kernel
theorem dX8_hung_88 : decode cX8_hung 88 = .ok (.iconst 0, 1) := by decide +kernel
theorem dX8_hung_89 : decode cX8_hung 89 = .ok (.istore 11, 2) := by decide +kernel
theorem dX8_hung_91 : decode cX8_hung 91 = .ok (.iload 11, 2) := by decide +kernel
theorem dX8_hung_93 : decode cX8_hung 93 = .ok (.aload_n 0, 1) := by decide +kernel
theorem dX8_hung_94 : decode cX8_hung 94 = .ok (.getfield 112, 3) := by decide +kernel
theorem dX8_hung_97 : decode cX8_hung 97 = .ok (.if_icmp .gt 50, 3) := by decide +kernel
theorem dX8_hung_100 : decode cX8_hung 100 = .ok (.aload_n 0, 1) := by decide +kernel
theorem dX8_hung_101 : decode cX8_hung 101 = .ok (.iload_n 1, 1) := by decide +kernel
theorem dX8_hung_102 : decode cX8_hung 102 = .ok (.iload_n 2, 1) := by decide +kernel
theorem dX8_hung_103 : decode cX8_hung 103 = .ok (.iload 11, 2) := by decide +kernel
theorem dX8_hung_105 : decode cX8_hung 105 = .ok (.bipush 40, 2) := by decide +kernel
theorem dX8_hung_107 : decode cX8_hung 107 = .ok (.iload_n 3, 1) := by decide +kernel
theorem dX8_hung_108 : decode cX8_hung 108 = .ok (.imul, 1) := by decide +kernel
theorem dX8_hung_109 : decode cX8_hung 109 = .ok (.iload 5, 2) := by decide +kernel
theorem dX8_hung_111 : decode cX8_hung 111 = .ok (.iadd, 1) := by decide +kernel
theorem dX8_hung_112 : decode cX8_hung 112 = .ok (.invokevirtual 221, 3) := by decide +kernel
theorem dX8_hung_115 : decode cX8_hung 115 = .ok (.ifCond .eq 26, 3) := by decide +kernel
theorem dX8_hung_118 : decode cX8_hung 118 = .ok (.iinc 8 1, 3) := by decide +kernel
theorem dX8_hung_121 : decode cX8_hung 121 = .ok (.iload 9, 2) := by decide +kernel
theorem dX8_hung_123 : decode cX8_hung 123 = .ok (.bipush (-9), 2) := by decide +kernel
theorem dX8_hung_125 : decode cX8_hung 125 = .ok (.if_icmp .ne 8, 3) := by decide +kernel
theorem dX8_hung_128 : decode cX8_hung 128 = .ok (.iload 11, 2) := by decide +kernel
theorem dX8_hung_130 : decode cX8_hung 130 = .ok (.goto 5, 3) := by decide +kernel
theorem dX8_hung_133 : decode cX8_hung 133 = .ok (.iload 9, 2) := by decide +kernel
theorem dX8_hung_135 : decode cX8_hung 135 = .ok (.istore 9, 2) := by decide +kernel
theorem dX8_hung_137 : decode cX8_hung 137 = .ok (.iload 11, 2) := by decide +kernel
theorem dX8_hung_139 : decode cX8_hung 139 = .ok (.istore 10, 2) := by decide +kernel
theorem dX8_hung_141 : decode cX8_hung 141 = .ok (.iinc 11 1, 3) := by decide +kernel
theorem dX8_hung_144 : decode cX8_hung 144 = .ok (.goto (-53), 3) := by decide +kernel
theorem dX8_hung_147 : decode cX8_hung 147 = .ok (.iload 6, 2) := by decide +kernel
theorem dX8_hung_149 : decode cX8_hung 149 = .ok (.ifCond .ne 8, 3) := by decide +kernel
theorem dX8_hung_152 : decode cX8_hung 152 = .ok (.iload 8, 2) := by decide +kernel
theorem dX8_hung_154 : decode cX8_hung 154 = .ok (.goto 16, 3) := by decide +kernel
theorem dX8_hung_157 : decode cX8_hung 157 = .ok (.iload 6, 2) := by decide +kernel
theorem dX8_hung_159 : decode cX8_hung 159 = .ok (.iconst 1, 1) := by decide +kernel
theorem dX8_hung_160 : decode cX8_hung 160 = .ok (.if_icmp .ne 8, 3) := by decide +kernel
theorem dX8_hung_163 : decode cX8_hung 163 = .ok (.iload 9, 2) := by decide +kernel
theorem dX8_hung_165 : decode cX8_hung 165 = .ok (.goto 5, 3) := by decide +kernel
theorem dX8_hung_168 : decode cX8_hung 168 = .ok (.iload 10, 2) := by decide +kernel
theorem dX8_hung_170 : decode cX8_hung 170 = .ok (.ireturn, 1) := by decide +kernel
set_option maxRecDepth 20000 in
theorem ggX8_old_X8_isCoat : GoodIn wsX8_old wsX8_isCoat := goodIn_r _ [7, 8, 44, 45, 46, 47, 48, 49, 50, 51, 52, 53, 54, 55, 56, 57, 58, 59, 60, 61, 62, 63, 64, 65, 66, 67, 68, 69, 70, 71, 72, 73, 74, 75, 76, 77, 78] (by decide +kernel) (by decide +kernel)
set_option maxRecDepth 20000 in
theorem gX8_old_X8_isCoat : GoodIn wsX8_old (wsV RX8 137 RX8 yX8_isCoat wsX8_isCoat) := goodIn_app (goodIn_of _ (by decide +kernel)) ggX8_old_X8_isCoat
set_option maxRecDepth 20000 in
theorem ggX8_old_X8_isSheet : GoodIn wsX8_old wsX8_isSheet := goodIn_r _ [11, 12, 13, 6, 14] (by decide +kernel) (by decide +kernel)
set_option maxRecDepth 20000 in
theorem gX8_old_X8_isSheet : GoodIn wsX8_old (va_wsS RX8 88 yX8_isSheet wsX8_isSheet) := goodIn_app (goodIn_of _ (by decide +kernel)) ggX8_old_X8_isSheet
set_option maxRecDepth 20000 in
theorem ggX8_old_X8_within : GoodIn wsX8_old wsX8_within := goodIn_r _ [14] (by decide +kernel) (by decide +kernel)
set_option maxRecDepth 20000 in
theorem gX8_old_X8_within : GoodIn wsX8_old (va_wsS RX8 71 yX8_within wsX8_within) := goodIn_app (goodIn_of _ (by decide +kernel)) ggX8_old_X8_within
set_option maxRecDepth 20000 in
theorem ggX8_old_X8_isSort : GoodIn wsX8_old wsX8_isSort := goodIn_r _ [17, 12, 13, 6, 14] (by decide +kernel) (by decide +kernel)
set_option maxRecDepth 20000 in
theorem gX8_old_X8_isSort : GoodIn wsX8_old (va_wsS RX8 92 yX8_isSort wsX8_isSort) := goodIn_app (goodIn_of _ (by decide +kernel)) ggX8_old_X8_isSort
set_option maxRecDepth 20000 in
theorem ggX8_old_X8_against : GoodIn wsX8_old wsX8_against := goodIn_r _ [21, 22, 23, 44, 45, 46, 47, 48, 49, 50, 51, 52, 53, 54, 55, 56, 57, 58, 59, 60, 61, 62, 63, 64, 65, 66, 67, 68, 69, 70, 71, 72, 73, 74, 75, 76, 77, 78] (by decide +kernel) (by decide +kernel)
set_option maxRecDepth 20000 in
theorem gX8_old_X8_against : GoodIn wsX8_old (wsV RX8 95 RX8 yX8_against wsX8_against) := goodIn_app (goodIn_of _ (by decide +kernel)) ggX8_old_X8_against
set_option maxRecDepth 20000 in
theorem ggX8_old_X8_lost : GoodIn wsX8_old wsX8_lost := goodIn_r _ [27, 1, 2, 44, 45, 46, 47, 48, 49, 50, 51, 52, 53, 54, 55, 56, 57, 58, 59, 60, 61, 62, 63, 64, 65, 66, 67, 68, 69, 70, 71, 72, 73, 74, 75, 76, 77, 78] (by decide +kernel) (by decide +kernel)
set_option maxRecDepth 20000 in
theorem gX8_old_X8_lost : GoodIn wsX8_old (wsV RX8 225 RX8 yX8_lost wsX8_lost) := goodIn_app (goodIn_of _ (by decide +kernel)) ggX8_old_X8_lost
set_option maxRecDepth 20000 in
theorem ggX8_old_X8_isSo : GoodIn wsX8_old wsX8_isSo := goodIn_r _ [31, 32, 33, 34, 35, 6, 36, 37, 38, 39, 40, 41, 42, 43, 44, 45, 46, 47, 48, 49, 50, 51, 52, 53, 54, 55, 56, 57, 58, 59, 60, 61, 62, 63, 64, 65, 66, 67, 68, 69, 70, 71, 72, 73, 74, 75, 76, 77, 78] (by decide +kernel) (by decide +kernel)
set_option maxRecDepth 20000 in
theorem gX8_old_X8_isSo : GoodIn wsX8_old (wsV RX8 221 RX8 yX8_isSo wsX8_isSo) := goodIn_app (goodIn_of _ (by decide +kernel)) ggX8_old_X8_isSo
theorem dX8_old_0 : decode cX8_old 0 = .ok (.aload_n 0, 1) := by decide +kernel
theorem dX8_old_1 : decode cX8_old 1 = .ok (.iconst 0, 1) := by decide +kernel
theorem dX8_old_2 : decode cX8_old 2 = .ok (.putfield 65, 3) := by decide +kernel
theorem dX8_old_5 : decode cX8_old 5 = .ok (.aload_n 0, 1) := by decide +kernel
theorem dX8_old_6 : decode cX8_old 6 = .ok (.iload_n 1, 1) := by decide +kernel
theorem dX8_old_7 : decode cX8_old 7 = .ok (.invokevirtual 137, 3) := by decide +kernel
theorem dX8_old_10 : decode cX8_old 10 = .ok (.ifCond .eq 28, 3) := by decide +kernel
theorem dX8_old_13 : decode cX8_old 13 = .ok (.iload_n 3, 1) := by decide +kernel
theorem dX8_old_14 : decode cX8_old 14 = .ok (.invokestatic 88, 3) := by decide +kernel
theorem dX8_old_17 : decode cX8_old 17 = .ok (.ifCond .eq 21, 3) := by decide +kernel
theorem dX8_old_20 : decode cX8_old 20 = .ok (.iload_n 2, 1) := by decide +kernel
theorem dX8_old_21 : decode cX8_old 21 = .ok (.iconst 0, 1) := by decide +kernel
theorem dX8_old_22 : decode cX8_old 22 = .ok (.bipush 9, 2) := by decide +kernel
theorem dX8_old_24 : decode cX8_old 24 = .ok (.invokestatic 71, 3) := by decide +kernel
theorem dX8_old_27 : decode cX8_old 27 = .ok (.ifCond .eq 11, 3) := by decide +kernel
theorem dX8_old_30 : decode cX8_old 30 = .ok (.iload 4, 2) := by decide +kernel
theorem dX8_old_32 : decode cX8_old 32 = .ok (.invokestatic 92, 3) := by decide +kernel
theorem dX8_old_35 : decode cX8_old 35 = .ok (.ifCond .ne 7, 3) := by decide +kernel
theorem dX8_old_38 : decode cX8_old 38 = .ok (.ldc2_w 69, 3) := by decide +kernel
theorem dX8_old_41 : decode cX8_old 41 = .ok (.lreturn, 1) := by decide +kernel
theorem dX8_old_42 : decode cX8_old 42 = .ok (.aload_n 0, 1) := by decide +kernel
theorem dX8_old_43 : decode cX8_old 43 = .ok (.iload_n 3, 1) := by decide +kernel
theorem dX8_old_44 : decode cX8_old 44 = .ok (.iload 4, 2) := by decide +kernel
theorem dX8_old_46 : decode cX8_old 46 = .ok (.iload 5, 2) := by decide +kernel
theorem dX8_old_48 : decode cX8_old 48 = .ok (.iconst 3, 1) := by decide +kernel
theorem dX8_old_49 : decode cX8_old 49 = .ok (.invokevirtual 95, 3) := by decide +kernel
theorem dX8_old_52 : decode cX8_old 52 = .ok (.istore 6, 2) := by decide +kernel
theorem dX8_old_54 : decode cX8_old 54 = .ok (.iload 6, 2) := by decide +kernel
theorem dX8_old_56 : decode cX8_old 56 = .ok (.ifCond .eq 10, 3) := by decide +kernel
theorem dX8_old_59 : decode cX8_old 59 = .ok (.aload_n 0, 1) := by decide +kernel
theorem dX8_old_60 : decode cX8_old 60 = .ok (.iload 6, 2) := by decide +kernel
theorem dX8_old_62 : decode cX8_old 62 = .ok (.invokevirtual 225, 3) := by decide +kernel
theorem dX8_old_65 : decode cX8_old 65 = .ok (.lreturn, 1) := by decide +kernel
theorem dX8_old_66 : decode cX8_old 66 = .ok (.lconst 0, 1) := by decide +kernel
theorem dX8_old_67 : decode cX8_old 67 = .ok (.lstore 7, 2) := by decide +kernel
theorem dX8_old_69 : decode cX8_old 69 = .ok (.iconst 0, 1) := by decide +kernel
theorem dX8_old_70 : decode cX8_old 70 = .ok (.istore 9, 2) := by decide +kernel
theorem dX8_old_72 : decode cX8_old 72 = .ok (.iload 9, 2) := by decide +kernel
theorem dX8_old_74 : decode cX8_old 74 = .ok (.bipush 40, 2) := by decide +kernel
theorem dX8_old_76 : decode cX8_old 76 = .ok (.if_icmp .gt 40, 3) := by decide +kernel
theorem dX8_old_79 : decode cX8_old 79 = .ok (.lload 7, 2) := by decide +kernel
theorem dX8_old_81 : decode cX8_old 81 = .ok (.aload_n 0, 1) := by decide +kernel
theorem dX8_old_82 : decode cX8_old 82 = .ok (.iload_n 1, 1) := by decide +kernel
theorem dX8_old_83 : decode cX8_old 83 = .ok (.iload_n 2, 1) := by decide +kernel
theorem dX8_old_84 : decode cX8_old 84 = .ok (.iload 9, 2) := by decide +kernel
theorem dX8_old_86 : decode cX8_old 86 = .ok (.bipush 40, 2) := by decide +kernel
theorem dX8_old_88 : decode cX8_old 88 = .ok (.iload_n 3, 1) := by decide +kernel
theorem dX8_old_89 : decode cX8_old 89 = .ok (.imul, 1) := by decide +kernel
theorem dX8_old_90 : decode cX8_old 90 = .ok (.iload 5, 2) := by decide +kernel
theorem dX8_old_92 : decode cX8_old 92 = .ok (.iadd, 1) := by decide +kernel
theorem dX8_old_93 : decode cX8_old 93 = .ok (.invokevirtual 221, 3) := by decide +kernel
theorem dX8_old_96 : decode cX8_old 96 = .ok (.ifCond .eq 10, 3) := by decide +kernel
theorem dX8_old_99 : decode cX8_old 99 = .ok (.lconst 1, 1) := by decide +kernel
theorem dX8_old_100 : decode cX8_old 100 = .ok (.iload 9, 2) := by decide +kernel
theorem dX8_old_102 : decode cX8_old 102 = .ok (.lshl, 1) := by decide +kernel
theorem dX8_old_103 : decode cX8_old 103 = .ok (.goto 4, 3) := by decide +kernel
theorem dX8_old_106 : decode cX8_old 106 = .ok (.lconst 0, 1) := by decide +kernel
theorem dX8_old_107 : decode cX8_old 107 = .ok (.lor, 1) := by decide +kernel
theorem dX8_old_108 : decode cX8_old 108 = .ok (.lstore 7, 2) := by decide +kernel
theorem dX8_old_110 : decode cX8_old 110 = .ok (.iinc 9 1, 3) := by decide +kernel
theorem dX8_old_113 : decode cX8_old 113 = .ok (.goto (-41), 3) := by decide +kernel
theorem dX8_old_116 : decode cX8_old 116 = .ok (.lload 7, 2) := by decide +kernel
theorem dX8_old_118 : decode cX8_old 118 = .ok (.lreturn, 1) := by decide +kernel
set_option maxRecDepth 20000 in
theorem ggX8_sheet_X8_isSheet : GoodIn wsX8_sheet wsX8_isSheet := goodIn_r _ [8, 9, 10, 7, 11] (by decide +kernel) (by decide +kernel)
set_option maxRecDepth 20000 in
theorem gX8_sheet_X8_isSheet : GoodIn wsX8_sheet (va_wsS RX8 88 yX8_isSheet wsX8_isSheet) := goodIn_app (goodIn_of _ (by decide +kernel)) ggX8_sheet_X8_isSheet
set_option maxRecDepth 20000 in
theorem ggX8_sheet_X8_isSort : GoodIn wsX8_sheet wsX8_isSort := goodIn_r _ [14, 9, 10, 7, 11] (by decide +kernel) (by decide +kernel)
set_option maxRecDepth 20000 in
theorem gX8_sheet_X8_isSort : GoodIn wsX8_sheet (va_wsS RX8 92 yX8_isSort wsX8_isSort) := goodIn_app (goodIn_of _ (by decide +kernel)) ggX8_sheet_X8_isSort
set_option maxRecDepth 20000 in
theorem ggX8_sheet_X8_fails : GoodIn wsX8_sheet wsX8_fails := goodIn_r _ [18, 1, 19, 20, 21, 22, 23, 24, 25, 26, 27, 28, 29, 30, 31, 32, 33, 34, 35, 36, 37, 38, 39, 40, 41, 42, 43, 44, 45, 46, 47, 48, 49, 50, 51, 52, 53] (by decide +kernel) (by decide +kernel)
set_option maxRecDepth 20000 in
theorem gX8_sheet_X8_fails : GoodIn wsX8_sheet (wsV RX8 99 RX8 yX8_fails wsX8_fails) := goodIn_app (goodIn_of _ (by decide +kernel)) ggX8_sheet_X8_fails
theorem dX8_sheet_0 : decode cX8_sheet 0 = .ok (.aload_n 0, 1) := by decide +kernel
theorem dX8_sheet_1 : decode cX8_sheet 1 = .ok (.iconst 0, 1) := by decide +kernel
theorem dX8_sheet_2 : decode cX8_sheet 2 = .ok (.putfield 65, 3) := by decide +kernel
theorem dX8_sheet_5 : decode cX8_sheet 5 = .ok (.iload_n 1, 1) := by decide +kernel
theorem dX8_sheet_6 : decode cX8_sheet 6 = .ok (.invokestatic 88, 3) := by decide +kernel
theorem dX8_sheet_9 : decode cX8_sheet 9 = .ok (.ifCond .ne 5, 3) := by decide +kernel
theorem dX8_sheet_12 : decode cX8_sheet 12 = .ok (.iconst (-1), 1) := by decide +kernel
theorem dX8_sheet_13 : decode cX8_sheet 13 = .ok (.ireturn, 1) := by decide +kernel
theorem dX8_sheet_14 : decode cX8_sheet 14 = .ok (.iload_n 2, 1) := by decide +kernel
theorem dX8_sheet_15 : decode cX8_sheet 15 = .ok (.invokestatic 92, 3) := by decide +kernel
theorem dX8_sheet_18 : decode cX8_sheet 18 = .ok (.ifCond .eq 9, 3) := by decide +kernel
theorem dX8_sheet_21 : decode cX8_sheet 21 = .ok (.iload_n 3, 1) := by decide +kernel
theorem dX8_sheet_22 : decode cX8_sheet 22 = .ok (.bipush 40, 2) := by decide +kernel
theorem dX8_sheet_24 : decode cX8_sheet 24 = .ok (.if_icmp .le 6, 3) := by decide +kernel
theorem dX8_sheet_27 : decode cX8_sheet 27 = .ok (.bipush (-2), 2) := by decide +kernel
theorem dX8_sheet_29 : decode cX8_sheet 29 = .ok (.ireturn, 1) := by decide +kernel
theorem dX8_sheet_30 : decode cX8_sheet 30 = .ok (.iload_n 3, 1) := by decide +kernel
theorem dX8_sheet_31 : decode cX8_sheet 31 = .ok (.ifCond .ge 9, 3) := by decide +kernel
theorem dX8_sheet_34 : decode cX8_sheet 34 = .ok (.aload_n 0, 1) := by decide +kernel
theorem dX8_sheet_35 : decode cX8_sheet 35 = .ok (.iconst 4, 1) := by decide +kernel
theorem dX8_sheet_36 : decode cX8_sheet 36 = .ok (.invokevirtual 99, 3) := by decide +kernel
theorem dX8_sheet_39 : decode cX8_sheet 39 = .ok (.ireturn, 1) := by decide +kernel
theorem dX8_sheet_40 : decode cX8_sheet 40 = .ok (.aload_n 0, 1) := by decide +kernel
theorem dX8_sheet_41 : decode cX8_sheet 41 = .ok (.getfield 9, 3) := by decide +kernel
theorem dX8_sheet_44 : decode cX8_sheet 44 = .ok (.iload_n 1, 1) := by decide +kernel
theorem dX8_sheet_45 : decode cX8_sheet 45 = .ok (.iload_n 2, 1) := by decide +kernel
theorem dX8_sheet_46 : decode cX8_sheet 46 = .ok (.iastore, 1) := by decide +kernel
theorem dX8_sheet_47 : decode cX8_sheet 47 = .ok (.aload_n 0, 1) := by decide +kernel
theorem dX8_sheet_48 : decode cX8_sheet 48 = .ok (.getfield 13, 3) := by decide +kernel
theorem dX8_sheet_51 : decode cX8_sheet 51 = .ok (.iload_n 1, 1) := by decide +kernel
theorem dX8_sheet_52 : decode cX8_sheet 52 = .ok (.iload_n 3, 1) := by decide +kernel
theorem dX8_sheet_53 : decode cX8_sheet 53 = .ok (.iastore, 1) := by decide +kernel
theorem dX8_sheet_54 : decode cX8_sheet 54 = .ok (.iconst 0, 1) := by decide +kernel
theorem dX8_sheet_55 : decode cX8_sheet 55 = .ok (.istore 4, 2) := by decide +kernel
theorem dX8_sheet_57 : decode cX8_sheet 57 = .ok (.iload 4, 2) := by decide +kernel
theorem dX8_sheet_59 : decode cX8_sheet 59 = .ok (.bipush 40, 2) := by decide +kernel
theorem dX8_sheet_61 : decode cX8_sheet 61 = .ok (.if_icmp .ge 22, 3) := by decide +kernel
theorem dX8_sheet_64 : decode cX8_sheet 64 = .ok (.aload_n 0, 1) := by decide +kernel
theorem dX8_sheet_65 : decode cX8_sheet 65 = .ok (.getfield 16, 3) := by decide +kernel
theorem dX8_sheet_68 : decode cX8_sheet 68 = .ok (.bipush 40, 2) := by decide +kernel
theorem dX8_sheet_70 : decode cX8_sheet 70 = .ok (.iload_n 1, 1) := by decide +kernel
theorem dX8_sheet_71 : decode cX8_sheet 71 = .ok (.imul, 1) := by decide +kernel
theorem dX8_sheet_72 : decode cX8_sheet 72 = .ok (.iload 4, 2) := by decide +kernel
theorem dX8_sheet_74 : decode cX8_sheet 74 = .ok (.iadd, 1) := by decide +kernel
theorem dX8_sheet_75 : decode cX8_sheet 75 = .ok (.iconst 0, 1) := by decide +kernel
theorem dX8_sheet_76 : decode cX8_sheet 76 = .ok (.iastore, 1) := by decide +kernel
theorem dX8_sheet_77 : decode cX8_sheet 77 = .ok (.iinc 4 1, 3) := by decide +kernel
theorem dX8_sheet_80 : decode cX8_sheet 80 = .ok (.goto (-23), 3) := by decide +kernel
theorem dX8_sheet_83 : decode cX8_sheet 83 = .ok (.iconst 1, 1) := by decide +kernel
theorem dX8_sheet_84 : decode cX8_sheet 84 = .ok (.ireturn, 1) := by decide +kernel
set_option maxRecDepth 20000 in
theorem ggX8_lose_X8_isSheet : GoodIn wsX8_lose wsX8_isSheet := goodIn_r _ [5, 6, 7, 4, 8] (by decide +kernel) (by decide +kernel)
set_option maxRecDepth 20000 in
theorem gX8_lose_X8_isSheet : GoodIn wsX8_lose (va_wsS RX8 88 yX8_isSheet wsX8_isSheet) := goodIn_app (goodIn_of _ (by decide +kernel)) ggX8_lose_X8_isSheet
theorem dX8_lose_0 : decode cX8_lose 0 = .ok (.iload_n 1, 1) := by decide +kernel
theorem dX8_lose_1 : decode cX8_lose 1 = .ok (.invokestatic 88, 3) := by decide +kernel
theorem dX8_lose_4 : decode cX8_lose 4 = .ok (.ifCond .ne 5, 3) := by decide +kernel
theorem dX8_lose_7 : decode cX8_lose 7 = .ok (.iconst (-1), 1) := by decide +kernel
theorem dX8_lose_8 : decode cX8_lose 8 = .ok (.ireturn, 1) := by decide +kernel
theorem dX8_lose_9 : decode cX8_lose 9 = .ok (.aload_n 0, 1) := by decide +kernel
theorem dX8_lose_10 : decode cX8_lose 10 = .ok (.getfield 9, 3) := by decide +kernel
theorem dX8_lose_13 : decode cX8_lose 13 = .ok (.iload_n 1, 1) := by decide +kernel
theorem dX8_lose_14 : decode cX8_lose 14 = .ok (.iaload, 1) := by decide +kernel
theorem dX8_lose_15 : decode cX8_lose 15 = .ok (.bipush (-9), 2) := by decide +kernel
theorem dX8_lose_17 : decode cX8_lose 17 = .ok (.if_icmp .ne 7, 3) := by decide +kernel
theorem dX8_lose_20 : decode cX8_lose 20 = .ok (.iconst 0, 1) := by decide +kernel
theorem dX8_lose_21 : decode cX8_lose 21 = .ok (.goto 4, 3) := by decide +kernel
theorem dX8_lose_24 : decode cX8_lose 24 = .ok (.iconst 1, 1) := by decide +kernel
theorem dX8_lose_25 : decode cX8_lose 25 = .ok (.istore_n 2, 1) := by decide +kernel
theorem dX8_lose_26 : decode cX8_lose 26 = .ok (.aload_n 0, 1) := by decide +kernel
theorem dX8_lose_27 : decode cX8_lose 27 = .ok (.getfield 9, 3) := by decide +kernel
theorem dX8_lose_30 : decode cX8_lose 30 = .ok (.iload_n 1, 1) := by decide +kernel
theorem dX8_lose_31 : decode cX8_lose 31 = .ok (.bipush (-9), 2) := by decide +kernel
theorem dX8_lose_33 : decode cX8_lose 33 = .ok (.iastore, 1) := by decide +kernel
theorem dX8_lose_34 : decode cX8_lose 34 = .ok (.iload_n 2, 1) := by decide +kernel
theorem dX8_lose_35 : decode cX8_lose 35 = .ok (.ireturn, 1) := by decide +kernel
set_option maxRecDepth 20000 in
theorem ggX8_put_X8_isSheet : GoodIn wsX8_put wsX8_isSheet := goodIn_r _ [8, 9, 10, 7, 11] (by decide +kernel) (by decide +kernel)
set_option maxRecDepth 20000 in
theorem gX8_put_X8_isSheet : GoodIn wsX8_put (va_wsS RX8 88 yX8_isSheet wsX8_isSheet) := goodIn_app (goodIn_of _ (by decide +kernel)) ggX8_put_X8_isSheet
set_option maxRecDepth 20000 in
theorem ggX8_put_X8_fails : GoodIn wsX8_put wsX8_fails := goodIn_r _ [15, 1, 16, 17, 18, 19, 20, 21, 22, 23, 24, 25, 26, 27, 28, 29, 30, 31, 32, 33, 34, 35, 36, 37, 38, 39, 40, 41, 42, 43, 44, 45, 46, 47, 48, 49, 50] (by decide +kernel) (by decide +kernel)
set_option maxRecDepth 20000 in
theorem gX8_put_X8_fails : GoodIn wsX8_put (wsV RX8 99 RX8 yX8_fails wsX8_fails) := goodIn_app (goodIn_of _ (by decide +kernel)) ggX8_put_X8_fails
set_option maxRecDepth 20000 in
theorem ggX8_put_X8_within : GoodIn wsX8_put wsX8_within := goodIn_r _ [11] (by decide +kernel) (by decide +kernel)
set_option maxRecDepth 20000 in
theorem gX8_put_X8_within : GoodIn wsX8_put (va_wsS RX8 71 yX8_within wsX8_within) := goodIn_app (goodIn_of _ (by decide +kernel)) ggX8_put_X8_within
theorem dX8_put_0 : decode cX8_put 0 = .ok (.aload_n 0, 1) := by decide +kernel
theorem dX8_put_1 : decode cX8_put 1 = .ok (.iconst 0, 1) := by decide +kernel
theorem dX8_put_2 : decode cX8_put 2 = .ok (.putfield 65, 3) := by decide +kernel
theorem dX8_put_5 : decode cX8_put 5 = .ok (.iload_n 1, 1) := by decide +kernel
theorem dX8_put_6 : decode cX8_put 6 = .ok (.invokestatic 88, 3) := by decide +kernel
theorem dX8_put_9 : decode cX8_put 9 = .ok (.ifCond .ne 5, 3) := by decide +kernel
theorem dX8_put_12 : decode cX8_put 12 = .ok (.iconst (-1), 1) := by decide +kernel
theorem dX8_put_13 : decode cX8_put 13 = .ok (.ireturn, 1) := by decide +kernel
theorem dX8_put_14 : decode cX8_put 14 = .ok (.aload_n 0, 1) := by decide +kernel
theorem dX8_put_15 : decode cX8_put 15 = .ok (.getfield 9, 3) := by decide +kernel
theorem dX8_put_18 : decode cX8_put 18 = .ok (.iload_n 1, 1) := by decide +kernel
theorem dX8_put_19 : decode cX8_put 19 = .ok (.iaload, 1) := by decide +kernel
theorem dX8_put_20 : decode cX8_put 20 = .ok (.bipush (-9), 2) := by decide +kernel
theorem dX8_put_22 : decode cX8_put 22 = .ok (.if_icmp .ne 9, 3) := by decide +kernel
theorem dX8_put_25 : decode cX8_put 25 = .ok (.aload_n 0, 1) := by decide +kernel
theorem dX8_put_26 : decode cX8_put 26 = .ok (.iconst 1, 1) := by decide +kernel
theorem dX8_put_27 : decode cX8_put 27 = .ok (.invokevirtual 99, 3) := by decide +kernel
theorem dX8_put_30 : decode cX8_put 30 = .ok (.ireturn, 1) := by decide +kernel
theorem dX8_put_31 : decode cX8_put 31 = .ok (.iload_n 2, 1) := by decide +kernel
theorem dX8_put_32 : decode cX8_put 32 = .ok (.iconst 0, 1) := by decide +kernel
theorem dX8_put_33 : decode cX8_put 33 = .ok (.aload_n 0, 1) := by decide +kernel
theorem dX8_put_34 : decode cX8_put 34 = .ok (.getfield 13, 3) := by decide +kernel
theorem dX8_put_37 : decode cX8_put 37 = .ok (.iload_n 1, 1) := by decide +kernel
theorem dX8_put_38 : decode cX8_put 38 = .ok (.iaload, 1) := by decide +kernel
theorem dX8_put_39 : decode cX8_put 39 = .ok (.iconst 1, 1) := by decide +kernel
theorem dX8_put_40 : decode cX8_put 40 = .ok (.isub, 1) := by decide +kernel
theorem dX8_put_41 : decode cX8_put 41 = .ok (.invokestatic 71, 3) := by decide +kernel
theorem dX8_put_44 : decode cX8_put 44 = .ok (.ifCond .ne 9, 3) := by decide +kernel
theorem dX8_put_47 : decode cX8_put 47 = .ok (.aload_n 0, 1) := by decide +kernel
theorem dX8_put_48 : decode cX8_put 48 = .ok (.iconst 3, 1) := by decide +kernel
theorem dX8_put_49 : decode cX8_put 49 = .ok (.invokevirtual 99, 3) := by decide +kernel
theorem dX8_put_52 : decode cX8_put 52 = .ok (.ireturn, 1) := by decide +kernel
theorem dX8_put_53 : decode cX8_put 53 = .ok (.aload_n 0, 1) := by decide +kernel
theorem dX8_put_54 : decode cX8_put 54 = .ok (.getfield 16, 3) := by decide +kernel
theorem dX8_put_57 : decode cX8_put 57 = .ok (.bipush 40, 2) := by decide +kernel
theorem dX8_put_59 : decode cX8_put 59 = .ok (.iload_n 1, 1) := by decide +kernel
theorem dX8_put_60 : decode cX8_put 60 = .ok (.imul, 1) := by decide +kernel
theorem dX8_put_61 : decode cX8_put 61 = .ok (.iload_n 2, 1) := by decide +kernel
theorem dX8_put_62 : decode cX8_put 62 = .ok (.iadd, 1) := by decide +kernel
theorem dX8_put_63 : decode cX8_put 63 = .ok (.aload_n 0, 1) := by decide +kernel
theorem dX8_put_64 : decode cX8_put 64 = .ok (.getfield 9, 3) := by decide +kernel
theorem dX8_put_67 : decode cX8_put 67 = .ok (.iload_n 1, 1) := by decide +kernel
theorem dX8_put_68 : decode cX8_put 68 = .ok (.iaload, 1) := by decide +kernel
theorem dX8_put_69 : decode cX8_put 69 = .ok (.ifCond .ne 8, 3) := by decide +kernel
theorem dX8_put_72 : decode cX8_put 72 = .ok (.iload_n 3, 1) := by decide +kernel
theorem dX8_put_73 : decode cX8_put 73 = .ok (.i2b, 1) := by decide +kernel
theorem dX8_put_74 : decode cX8_put 74 = .ok (.goto 19, 3) := by decide +kernel
theorem dX8_put_77 : decode cX8_put 77 = .ok (.aload_n 0, 1) := by decide +kernel
theorem dX8_put_78 : decode cX8_put 78 = .ok (.getfield 9, 3) := by decide +kernel
theorem dX8_put_81 : decode cX8_put 81 = .ok (.iload_n 1, 1) := by decide +kernel
theorem dX8_put_82 : decode cX8_put 82 = .ok (.iaload, 1) := by decide +kernel
theorem dX8_put_83 : decode cX8_put 83 = .ok (.iconst 1, 1) := by decide +kernel
theorem dX8_put_84 : decode cX8_put 84 = .ok (.if_icmp .ne 8, 3) := by decide +kernel
theorem dX8_put_87 : decode cX8_put 87 = .ok (.iload_n 3, 1) := by decide +kernel
theorem dX8_put_88 : decode cX8_put 88 = .ok (.i2s, 1) := by decide +kernel
theorem dX8_put_89 : decode cX8_put 89 = .ok (.goto 4, 3) := by decide +kernel
theorem dX8_put_92 : decode cX8_put 92 = .ok (.iload_n 3, 1) := by decide +kernel
theorem dX8_put_93 : decode cX8_put 93 = .ok (.iastore, 1) := by decide +kernel
theorem dX8_put_94 : decode cX8_put 94 = .ok (.iconst 1, 1) := by decide +kernel
theorem dX8_put_95 : decode cX8_put 95 = .ok (.ireturn, 1) := by decide +kernel
set_option maxRecDepth 20000 in
theorem ggX8_cell_X8_isSheet : GoodIn wsX8_cell wsX8_isSheet := goodIn_r _ [9, 10, 11, 8, 12] (by decide +kernel) (by decide +kernel)
set_option maxRecDepth 20000 in
theorem gX8_cell_X8_isSheet : GoodIn wsX8_cell (va_wsS RX8 88 yX8_isSheet wsX8_isSheet) := goodIn_app (goodIn_of _ (by decide +kernel)) ggX8_cell_X8_isSheet
set_option maxRecDepth 20000 in
theorem ggX8_cell_X8_isSort : GoodIn wsX8_cell wsX8_isSort := goodIn_r _ [15, 10, 11, 8, 12] (by decide +kernel) (by decide +kernel)
set_option maxRecDepth 20000 in
theorem gX8_cell_X8_isSort : GoodIn wsX8_cell (va_wsS RX8 92 yX8_isSort wsX8_isSort) := goodIn_app (goodIn_of _ (by decide +kernel)) ggX8_cell_X8_isSort
set_option maxRecDepth 20000 in
theorem ggX8_cell_X8_lost : GoodIn wsX8_cell wsX8_lost := goodIn_r _ [19, 1, 2, 20, 21, 22, 23, 24, 25, 26, 27, 28, 29, 30, 31, 32, 33, 34, 35, 36, 37, 38, 39, 40, 41, 42, 43, 44, 45, 46, 47, 48, 49, 50, 51, 52, 53, 54] (by decide +kernel) (by decide +kernel)
set_option maxRecDepth 20000 in
theorem gX8_cell_X8_lost : GoodIn wsX8_cell (wsV RX8 225 RX8 yX8_lost wsX8_lost) := goodIn_app (goodIn_of _ (by decide +kernel)) ggX8_cell_X8_lost
set_option maxRecDepth 20000 in
theorem ggX8_cell_X8_within : GoodIn wsX8_cell wsX8_within := goodIn_r _ [12] (by decide +kernel) (by decide +kernel)
set_option maxRecDepth 20000 in
theorem gX8_cell_X8_within : GoodIn wsX8_cell (va_wsS RX8 71 yX8_within wsX8_within) := goodIn_app (goodIn_of _ (by decide +kernel)) ggX8_cell_X8_within
theorem dX8_cell_0 : decode cX8_cell 0 = .ok (.aload_n 0, 1) := by decide +kernel
theorem dX8_cell_1 : decode cX8_cell 1 = .ok (.iconst 0, 1) := by decide +kernel
theorem dX8_cell_2 : decode cX8_cell 2 = .ok (.putfield 65, 3) := by decide +kernel
theorem dX8_cell_5 : decode cX8_cell 5 = .ok (.iload_n 1, 1) := by decide +kernel
theorem dX8_cell_6 : decode cX8_cell 6 = .ok (.invokestatic 88, 3) := by decide +kernel
theorem dX8_cell_9 : decode cX8_cell 9 = .ok (.ifCond .eq 10, 3) := by decide +kernel
theorem dX8_cell_12 : decode cX8_cell 12 = .ok (.iload_n 3, 1) := by decide +kernel
theorem dX8_cell_13 : decode cX8_cell 13 = .ok (.invokestatic 92, 3) := by decide +kernel
theorem dX8_cell_16 : decode cX8_cell 16 = .ok (.ifCond .ne 7, 3) := by decide +kernel
theorem dX8_cell_19 : decode cX8_cell 19 = .ok (.ldc2_w 69, 3) := by decide +kernel
theorem dX8_cell_22 : decode cX8_cell 22 = .ok (.lreturn, 1) := by decide +kernel
theorem dX8_cell_23 : decode cX8_cell 23 = .ok (.aload_n 0, 1) := by decide +kernel
theorem dX8_cell_24 : decode cX8_cell 24 = .ok (.getfield 9, 3) := by decide +kernel
theorem dX8_cell_27 : decode cX8_cell 27 = .ok (.iload_n 1, 1) := by decide +kernel
theorem dX8_cell_28 : decode cX8_cell 28 = .ok (.iaload, 1) := by decide +kernel
theorem dX8_cell_29 : decode cX8_cell 29 = .ok (.bipush (-9), 2) := by decide +kernel
theorem dX8_cell_31 : decode cX8_cell 31 = .ok (.if_icmp .eq 19, 3) := by decide +kernel
theorem dX8_cell_34 : decode cX8_cell 34 = .ok (.aload_n 0, 1) := by decide +kernel
theorem dX8_cell_35 : decode cX8_cell 35 = .ok (.getfield 9, 3) := by decide +kernel
theorem dX8_cell_38 : decode cX8_cell 38 = .ok (.iload_n 1, 1) := by decide +kernel
theorem dX8_cell_39 : decode cX8_cell 39 = .ok (.iaload, 1) := by decide +kernel
theorem dX8_cell_40 : decode cX8_cell 40 = .ok (.iload_n 3, 1) := by decide +kernel
theorem dX8_cell_41 : decode cX8_cell 41 = .ok (.if_icmp .eq 9, 3) := by decide +kernel
theorem dX8_cell_44 : decode cX8_cell 44 = .ok (.aload_n 0, 1) := by decide +kernel
theorem dX8_cell_45 : decode cX8_cell 45 = .ok (.iconst 2, 1) := by decide +kernel
theorem dX8_cell_46 : decode cX8_cell 46 = .ok (.invokevirtual 225, 3) := by decide +kernel
theorem dX8_cell_49 : decode cX8_cell 49 = .ok (.lreturn, 1) := by decide +kernel
theorem dX8_cell_50 : decode cX8_cell 50 = .ok (.aload_n 0, 1) := by decide +kernel
theorem dX8_cell_51 : decode cX8_cell 51 = .ok (.getfield 9, 3) := by decide +kernel
theorem dX8_cell_54 : decode cX8_cell 54 = .ok (.iload_n 1, 1) := by decide +kernel
theorem dX8_cell_55 : decode cX8_cell 55 = .ok (.iaload, 1) := by decide +kernel
theorem dX8_cell_56 : decode cX8_cell 56 = .ok (.bipush (-9), 2) := by decide +kernel
theorem dX8_cell_58 : decode cX8_cell 58 = .ok (.if_icmp .ne 9, 3) := by decide +kernel
theorem dX8_cell_61 : decode cX8_cell 61 = .ok (.aload_n 0, 1) := by decide +kernel
theorem dX8_cell_62 : decode cX8_cell 62 = .ok (.iconst 1, 1) := by decide +kernel
theorem dX8_cell_63 : decode cX8_cell 63 = .ok (.invokevirtual 225, 3) := by decide +kernel
theorem dX8_cell_66 : decode cX8_cell 66 = .ok (.lreturn, 1) := by decide +kernel
theorem dX8_cell_67 : decode cX8_cell 67 = .ok (.iload_n 2, 1) := by decide +kernel
theorem dX8_cell_68 : decode cX8_cell 68 = .ok (.iconst 0, 1) := by decide +kernel
theorem dX8_cell_69 : decode cX8_cell 69 = .ok (.aload_n 0, 1) := by decide +kernel
theorem dX8_cell_70 : decode cX8_cell 70 = .ok (.getfield 13, 3) := by decide +kernel
theorem dX8_cell_73 : decode cX8_cell 73 = .ok (.iload_n 1, 1) := by decide +kernel
theorem dX8_cell_74 : decode cX8_cell 74 = .ok (.iaload, 1) := by decide +kernel
theorem dX8_cell_75 : decode cX8_cell 75 = .ok (.iconst 1, 1) := by decide +kernel
theorem dX8_cell_76 : decode cX8_cell 76 = .ok (.isub, 1) := by decide +kernel
theorem dX8_cell_77 : decode cX8_cell 77 = .ok (.invokestatic 71, 3) := by decide +kernel
theorem dX8_cell_80 : decode cX8_cell 80 = .ok (.ifCond .ne 9, 3) := by decide +kernel
theorem dX8_cell_83 : decode cX8_cell 83 = .ok (.aload_n 0, 1) := by decide +kernel
theorem dX8_cell_84 : decode cX8_cell 84 = .ok (.iconst 3, 1) := by decide +kernel
theorem dX8_cell_85 : decode cX8_cell 85 = .ok (.invokevirtual 225, 3) := by decide +kernel
theorem dX8_cell_88 : decode cX8_cell 88 = .ok (.lreturn, 1) := by decide +kernel
theorem dX8_cell_89 : decode cX8_cell 89 = .ok (.aload_n 0, 1) := by decide +kernel
theorem dX8_cell_90 : decode cX8_cell 90 = .ok (.getfield 16, 3) := by decide +kernel
theorem dX8_cell_93 : decode cX8_cell 93 = .ok (.bipush 40, 2) := by decide +kernel
theorem dX8_cell_95 : decode cX8_cell 95 = .ok (.iload_n 1, 1) := by decide +kernel
theorem dX8_cell_96 : decode cX8_cell 96 = .ok (.imul, 1) := by decide +kernel
theorem dX8_cell_97 : decode cX8_cell 97 = .ok (.iload_n 2, 1) := by decide +kernel
theorem dX8_cell_98 : decode cX8_cell 98 = .ok (.iadd, 1) := by decide +kernel
theorem dX8_cell_99 : decode cX8_cell 99 = .ok (.iaload, 1) := by decide +kernel
theorem dX8_cell_100 : decode cX8_cell 100 = .ok (.i2l, 1) := by decide +kernel
theorem dX8_cell_101 : decode cX8_cell 101 = .ok (.lreturn, 1) := by decide +kernel
set_option maxRecDepth 20000 in
theorem ggX8_copy_X8_isSheet : GoodIn wsX8_copy wsX8_isSheet := goodIn_r _ [8, 9, 10, 7, 11] (by decide +kernel) (by decide +kernel)
set_option maxRecDepth 20000 in
theorem gX8_copy_X8_isSheet : GoodIn wsX8_copy (va_wsS RX8 88 yX8_isSheet wsX8_isSheet) := goodIn_app (goodIn_of _ (by decide +kernel)) ggX8_copy_X8_isSheet
set_option maxRecDepth 20000 in
theorem ggX8_copy_X8_fails : GoodIn wsX8_copy wsX8_fails := goodIn_r _ [15, 1, 16, 17, 18, 19, 20, 21, 22, 23, 24, 25, 26, 27, 28, 29, 30, 31, 32, 33, 34, 35, 36, 37, 38, 39, 40, 41, 42, 43, 44, 45, 46, 47, 48, 49, 50] (by decide +kernel) (by decide +kernel)
set_option maxRecDepth 20000 in
theorem gX8_copy_X8_fails : GoodIn wsX8_copy (wsV RX8 99 RX8 yX8_fails wsX8_fails) := goodIn_app (goodIn_of _ (by decide +kernel)) ggX8_copy_X8_fails
theorem dX8_copy_0 : decode cX8_copy 0 = .ok (.aload_n 0, 1) := by decide +kernel
theorem dX8_copy_1 : decode cX8_copy 1 = .ok (.iconst 0, 1) := by decide +kernel
theorem dX8_copy_2 : decode cX8_copy 2 = .ok (.putfield 65, 3) := by decide +kernel
theorem dX8_copy_5 : decode cX8_copy 5 = .ok (.iload_n 1, 1) := by decide +kernel
theorem dX8_copy_6 : decode cX8_copy 6 = .ok (.invokestatic 88, 3) := by decide +kernel
theorem dX8_copy_9 : decode cX8_copy 9 = .ok (.ifCond .eq 10, 3) := by decide +kernel
theorem dX8_copy_12 : decode cX8_copy 12 = .ok (.iload_n 3, 1) := by decide +kernel
theorem dX8_copy_13 : decode cX8_copy 13 = .ok (.invokestatic 88, 3) := by decide +kernel
theorem dX8_copy_16 : decode cX8_copy 16 = .ok (.ifCond .ne 5, 3) := by decide +kernel
theorem dX8_copy_19 : decode cX8_copy 19 = .ok (.iconst (-1), 1) := by decide +kernel
theorem dX8_copy_20 : decode cX8_copy 20 = .ok (.ireturn, 1) := by decide +kernel
theorem dX8_copy_21 : decode cX8_copy 21 = .ok (.aload_n 0, 1) := by decide +kernel
theorem dX8_copy_22 : decode cX8_copy 22 = .ok (.getfield 9, 3) := by decide +kernel
theorem dX8_copy_25 : decode cX8_copy 25 = .ok (.iload_n 1, 1) := by decide +kernel
theorem dX8_copy_26 : decode cX8_copy 26 = .ok (.iaload, 1) := by decide +kernel
theorem dX8_copy_27 : decode cX8_copy 27 = .ok (.bipush (-9), 2) := by decide +kernel
theorem dX8_copy_29 : decode cX8_copy 29 = .ok (.if_icmp .eq 14, 3) := by decide +kernel
theorem dX8_copy_32 : decode cX8_copy 32 = .ok (.aload_n 0, 1) := by decide +kernel
theorem dX8_copy_33 : decode cX8_copy 33 = .ok (.getfield 9, 3) := by decide +kernel
theorem dX8_copy_36 : decode cX8_copy 36 = .ok (.iload_n 3, 1) := by decide +kernel
theorem dX8_copy_37 : decode cX8_copy 37 = .ok (.iaload, 1) := by decide +kernel
theorem dX8_copy_38 : decode cX8_copy 38 = .ok (.bipush (-9), 2) := by decide +kernel
theorem dX8_copy_40 : decode cX8_copy 40 = .ok (.if_icmp .ne 9, 3) := by decide +kernel
theorem dX8_copy_43 : decode cX8_copy 43 = .ok (.aload_n 0, 1) := by decide +kernel
theorem dX8_copy_44 : decode cX8_copy 44 = .ok (.iconst 1, 1) := by decide +kernel
theorem dX8_copy_45 : decode cX8_copy 45 = .ok (.invokevirtual 99, 3) := by decide +kernel
theorem dX8_copy_48 : decode cX8_copy 48 = .ok (.ireturn, 1) := by decide +kernel
theorem dX8_copy_49 : decode cX8_copy 49 = .ok (.aload_n 0, 1) := by decide +kernel
theorem dX8_copy_50 : decode cX8_copy 50 = .ok (.getfield 9, 3) := by decide +kernel
theorem dX8_copy_53 : decode cX8_copy 53 = .ok (.iload_n 1, 1) := by decide +kernel
theorem dX8_copy_54 : decode cX8_copy 54 = .ok (.iaload, 1) := by decide +kernel
theorem dX8_copy_55 : decode cX8_copy 55 = .ok (.aload_n 0, 1) := by decide +kernel
theorem dX8_copy_56 : decode cX8_copy 56 = .ok (.getfield 9, 3) := by decide +kernel
theorem dX8_copy_59 : decode cX8_copy 59 = .ok (.iload_n 3, 1) := by decide +kernel
theorem dX8_copy_60 : decode cX8_copy 60 = .ok (.iaload, 1) := by decide +kernel
theorem dX8_copy_61 : decode cX8_copy 61 = .ok (.if_icmp .eq 9, 3) := by decide +kernel
theorem dX8_copy_64 : decode cX8_copy 64 = .ok (.aload_n 0, 1) := by decide +kernel
theorem dX8_copy_65 : decode cX8_copy 65 = .ok (.iconst 2, 1) := by decide +kernel
theorem dX8_copy_66 : decode cX8_copy 66 = .ok (.invokevirtual 99, 3) := by decide +kernel
theorem dX8_copy_69 : decode cX8_copy 69 = .ok (.ireturn, 1) := by decide +kernel
theorem dX8_copy_70 : decode cX8_copy 70 = .ok (.iload_n 2, 1) := by decide +kernel
theorem dX8_copy_71 : decode cX8_copy 71 = .ok (.ifCond .lt 38, 3) := by decide +kernel
theorem dX8_copy_74 : decode cX8_copy 74 = .ok (.iload 4, 2) := by decide +kernel
theorem dX8_copy_76 : decode cX8_copy 76 = .ok (.ifCond .lt 33, 3) := by decide +kernel
theorem dX8_copy_79 : decode cX8_copy 79 = .ok (.iload 5, 2) := by decide +kernel
theorem dX8_copy_81 : decode cX8_copy 81 = .ok (.ifCond .lt 28, 3) := by decide +kernel
theorem dX8_copy_84 : decode cX8_copy 84 = .ok (.iload_n 2, 1) := by decide +kernel
theorem dX8_copy_85 : decode cX8_copy 85 = .ok (.aload_n 0, 1) := by decide +kernel
theorem dX8_copy_86 : decode cX8_copy 86 = .ok (.getfield 13, 3) := by decide +kernel
theorem dX8_copy_89 : decode cX8_copy 89 = .ok (.iload_n 1, 1) := by decide +kernel
theorem dX8_copy_90 : decode cX8_copy 90 = .ok (.iaload, 1) := by decide +kernel
theorem dX8_copy_91 : decode cX8_copy 91 = .ok (.if_icmp .gt 18, 3) := by decide +kernel
theorem dX8_copy_94 : decode cX8_copy 94 = .ok (.iload 4, 2) := by decide +kernel
theorem dX8_copy_96 : decode cX8_copy 96 = .ok (.aload_n 0, 1) := by decide +kernel
theorem dX8_copy_97 : decode cX8_copy 97 = .ok (.getfield 13, 3) := by decide +kernel
theorem dX8_copy_100 : decode cX8_copy 100 = .ok (.iload_n 3, 1) := by decide +kernel
theorem dX8_copy_101 : decode cX8_copy 101 = .ok (.iaload, 1) := by decide +kernel
theorem dX8_copy_102 : decode cX8_copy 102 = .ok (.if_icmp .gt 7, 3) := by decide +kernel
theorem dX8_copy_105 : decode cX8_copy 105 = .ok (.iconst 1, 1) := by decide +kernel
theorem dX8_copy_106 : decode cX8_copy 106 = .ok (.goto 4, 3) := by decide +kernel
theorem dX8_copy_109 : decode cX8_copy 109 = .ok (.iconst 0, 1) := by decide +kernel
theorem dX8_copy_110 : decode cX8_copy 110 = .ok (.istore 6, 2) := by decide +kernel
theorem dX8_copy_112 : decode cX8_copy 112 = .ok (.iload 6, 2) := by decide +kernel
theorem dX8_copy_114 : decode cX8_copy 114 = .ok (.ifCond .eq 30, 3) := by decide +kernel
theorem dX8_copy_117 : decode cX8_copy 117 = .ok (.iload 5, 2) := by decide +kernel
theorem dX8_copy_119 : decode cX8_copy 119 = .ok (.aload_n 0, 1) := by decide +kernel
theorem dX8_copy_120 : decode cX8_copy 120 = .ok (.getfield 13, 3) := by decide +kernel
theorem dX8_copy_123 : decode cX8_copy 123 = .ok (.iload_n 1, 1) := by decide +kernel
theorem dX8_copy_124 : decode cX8_copy 124 = .ok (.iaload, 1) := by decide +kernel
theorem dX8_copy_125 : decode cX8_copy 125 = .ok (.iload_n 2, 1) := by decide +kernel
theorem dX8_copy_126 : decode cX8_copy 126 = .ok (.isub, 1) := by decide +kernel
theorem dX8_copy_127 : decode cX8_copy 127 = .ok (.if_icmp .gt 17, 3) := by decide +kernel
theorem dX8_copy_130 : decode cX8_copy 130 = .ok (.iload 5, 2) := by decide +kernel
theorem dX8_copy_132 : decode cX8_copy 132 = .ok (.aload_n 0, 1) := by decide +kernel
theorem dX8_copy_133 : decode cX8_copy 133 = .ok (.getfield 13, 3) := by decide +kernel
theorem dX8_copy_136 : decode cX8_copy 136 = .ok (.iload_n 3, 1) := by decide +kernel
theorem dX8_copy_137 : decode cX8_copy 137 = .ok (.iaload, 1) := by decide +kernel
theorem dX8_copy_138 : decode cX8_copy 138 = .ok (.iload 4, 2) := by decide +kernel
theorem dX8_copy_140 : decode cX8_copy 140 = .ok (.isub, 1) := by decide +kernel
theorem dX8_copy_141 : decode cX8_copy 141 = .ok (.if_icmp .le 9, 3) := by decide +kernel
theorem dX8_copy_144 : decode cX8_copy 144 = .ok (.aload_n 0, 1) := by decide +kernel
theorem dX8_copy_145 : decode cX8_copy 145 = .ok (.iconst 3, 1) := by decide +kernel
theorem dX8_copy_146 : decode cX8_copy 146 = .ok (.invokevirtual 99, 3) := by decide +kernel
theorem dX8_copy_149 : decode cX8_copy 149 = .ok (.ireturn, 1) := by decide +kernel
theorem dX8_copy_150 : decode cX8_copy 150 = .ok (.iload_n 2, 1) := by decide +kernel
theorem dX8_copy_151 : decode cX8_copy 151 = .ok (.iload 4, 2) := by decide +kernel
theorem dX8_copy_153 : decode cX8_copy 153 = .ok (.if_icmp .ge 7, 3) := by decide +kernel
theorem dX8_copy_156 : decode cX8_copy 156 = .ok (.iconst 1, 1) := by decide +kernel
theorem dX8_copy_157 : decode cX8_copy 157 = .ok (.goto 4, 3) := by decide +kernel
theorem dX8_copy_160 : decode cX8_copy 160 = .ok (.iconst 0, 1) := by decide +kernel
theorem dX8_copy_161 : decode cX8_copy 161 = .ok (.istore 7, 2) := by decide +kernel
theorem dX8_copy_163 : decode cX8_copy 163 = .ok (.iconst 0, 1) := by decide +kernel
theorem dX8_copy_164 : decode cX8_copy 164 = .ok (.istore 8, 2) := by decide +kernel
theorem dX8_copy_166 : decode cX8_copy 166 = .ok (.iload 8, 2) := by decide +kernel
theorem dX8_copy_168 : decode cX8_copy 168 = .ok (.iload 5, 2) := by decide +kernel
theorem dX8_copy_170 : decode cX8_copy 170 = .ok (.if_icmp .ge 57, 3) := by decide +kernel
theorem dX8_copy_173 : decode cX8_copy 173 = .ok (.iload 7, 2) := by decide +kernel
theorem dX8_copy_175 : decode cX8_copy 175 = .ok (.ifCond .eq 13, 3) := by decide +kernel
theorem dX8_copy_178 : decode cX8_copy 178 = .ok (.iload 5, 2) := by decide +kernel
theorem dX8_copy_180 : decode cX8_copy 180 = .ok (.iconst 1, 1) := by decide +kernel
theorem dX8_copy_181 : decode cX8_copy 181 = .ok (.isub, 1) := by decide +kernel
theorem dX8_copy_182 : decode cX8_copy 182 = .ok (.iload 8, 2) := by decide +kernel
theorem dX8_copy_184 : decode cX8_copy 184 = .ok (.isub, 1) := by decide +kernel
theorem dX8_copy_185 : decode cX8_copy 185 = .ok (.goto 5, 3) := by decide +kernel
theorem dX8_copy_188 : decode cX8_copy 188 = .ok (.iload 8, 2) := by decide +kernel
theorem dX8_copy_190 : decode cX8_copy 190 = .ok (.istore 9, 2) := by decide +kernel
theorem dX8_copy_192 : decode cX8_copy 192 = .ok (.aload_n 0, 1) := by decide +kernel
theorem dX8_copy_193 : decode cX8_copy 193 = .ok (.getfield 16, 3) := by decide +kernel
theorem dX8_copy_196 : decode cX8_copy 196 = .ok (.bipush 40, 2) := by decide +kernel
theorem dX8_copy_198 : decode cX8_copy 198 = .ok (.iload_n 3, 1) := by decide +kernel
theorem dX8_copy_199 : decode cX8_copy 199 = .ok (.imul, 1) := by decide +kernel
theorem dX8_copy_200 : decode cX8_copy 200 = .ok (.iload 4, 2) := by decide +kernel
theorem dX8_copy_202 : decode cX8_copy 202 = .ok (.iadd, 1) := by decide +kernel
theorem dX8_copy_203 : decode cX8_copy 203 = .ok (.iload 9, 2) := by decide +kernel
theorem dX8_copy_205 : decode cX8_copy 205 = .ok (.iadd, 1) := by decide +kernel
theorem dX8_copy_206 : decode cX8_copy 206 = .ok (.aload_n 0, 1) := by decide +kernel
theorem dX8_copy_207 : decode cX8_copy 207 = .ok (.getfield 16, 3) := by decide +kernel
theorem dX8_copy_210 : decode cX8_copy 210 = .ok (.bipush 40, 2) := by decide +kernel
theorem dX8_copy_212 : decode cX8_copy 212 = .ok (.iload_n 1, 1) := by decide +kernel
theorem dX8_copy_213 : decode cX8_copy 213 = .ok (.imul, 1) := by decide +kernel
theorem dX8_copy_214 : decode cX8_copy 214 = .ok (.iload_n 2, 1) := by decide +kernel
theorem dX8_copy_215 : decode cX8_copy 215 = .ok (.iadd, 1) := by decide +kernel
theorem dX8_copy_216 : decode cX8_copy 216 = .ok (.iload 9, 2) := by decide +kernel
theorem dX8_copy_218 : decode cX8_copy 218 = .ok (.iadd, 1) := by decide +kernel
theorem dX8_copy_219 : decode cX8_copy 219 = .ok (.iaload, 1) := by decide +kernel
theorem dX8_copy_220 : decode cX8_copy 220 = .ok (.iastore, 1) := by decide +kernel
theorem dX8_copy_221 : decode cX8_copy 221 = .ok (.iinc 8 1, 3) := by decide +kernel
theorem dX8_copy_224 : decode cX8_copy 224 = .ok (.goto (-58), 3) := by decide +kernel
theorem dX8_copy_227 : decode cX8_copy 227 = .ok (.iload 5, 2) := by decide +kernel
theorem dX8_copy_229 : decode cX8_copy 229 = .ok (.ireturn, 1) := by decide +kernel
theorem dX8_begins_0 : decode cX8_begins 0 = .ok (.aload_n 0, 1) := by decide +kernel
theorem dX8_begins_1 : decode cX8_begins 1 = .ok (.bipush 31, 2) := by decide +kernel
theorem dX8_begins_3 : decode cX8_begins 3 = .ok (.aload_n 0, 1) := by decide +kernel
theorem dX8_begins_4 : decode cX8_begins 4 = .ok (.getfield 229, 3) := by decide +kernel
theorem dX8_begins_7 : decode cX8_begins 7 = .ok (.imul, 1) := by decide +kernel
theorem dX8_begins_8 : decode cX8_begins 8 = .ok (.iload_n 1, 1) := by decide +kernel
theorem dX8_begins_9 : decode cX8_begins 9 = .ok (.iadd, 1) := by decide +kernel
theorem dX8_begins_10 : decode cX8_begins 10 = .ok (.putfield 229, 3) := by decide +kernel
theorem dX8_begins_13 : decode cX8_begins 13 = .ok (.return_, 1) := by decide +kernel
set_option maxRecDepth 20000 in
theorem ggX8_tell_X8_isCoat : GoodIn wsX8_tell wsX8_isCoat := goodIn_r _ [7, 8, 14, 15, 16, 17, 18, 19, 20, 21, 22, 23, 24, 25, 26, 27, 28, 29, 30, 31, 32, 33, 34, 35, 36, 37, 38, 39, 40, 41, 42, 43, 44, 45, 46, 47, 48] (by decide +kernel) (by decide +kernel)
set_option maxRecDepth 20000 in
theorem gX8_tell_X8_isCoat : GoodIn wsX8_tell (wsV RX8 137 RX8 yX8_isCoat wsX8_isCoat) := goodIn_app (goodIn_of _ (by decide +kernel)) ggX8_tell_X8_isCoat
set_option maxRecDepth 20000 in
theorem ggX8_tell_X8_begins : GoodIn wsX8_tell wsX8_begins := goodIn_r _ [12, 13, 14, 15, 16, 17, 18, 19, 20, 21, 22, 23, 24, 25, 26, 27, 28, 29, 30, 31, 32, 33, 34, 35, 36, 37, 38, 39, 40, 41, 42, 43, 44, 45, 46, 47, 48] (by decide +kernel) (by decide +kernel)
set_option maxRecDepth 20000 in
theorem gX8_tell_X8_begins : GoodIn wsX8_tell (wsV RX8 232 RX8 yX8_begins wsX8_begins) := goodIn_app (goodIn_of _ (by decide +kernel)) ggX8_tell_X8_begins
theorem dX8_tell_0 : decode cX8_tell 0 = .ok (.aload_n 0, 1) := by decide +kernel
theorem dX8_tell_1 : decode cX8_tell 1 = .ok (.iload_n 1, 1) := by decide +kernel
theorem dX8_tell_2 : decode cX8_tell 2 = .ok (.invokevirtual 137, 3) := by decide +kernel
theorem dX8_tell_5 : decode cX8_tell 5 = .ok (.ifCond .ne 5, 3) := by decide +kernel
theorem dX8_tell_8 : decode cX8_tell 8 = .ok (.iconst (-1), 1) := by decide +kernel
theorem dX8_tell_9 : decode cX8_tell 9 = .ok (.ireturn, 1) := by decide +kernel
theorem dX8_tell_10 : decode cX8_tell 10 = .ok (.aload_n 0, 1) := by decide +kernel
theorem dX8_tell_11 : decode cX8_tell 11 = .ok (.getfield 41, 3) := by decide +kernel
theorem dX8_tell_14 : decode cX8_tell 14 = .ok (.iconst 3, 1) := by decide +kernel
theorem dX8_tell_15 : decode cX8_tell 15 = .ok (.iload_n 1, 1) := by decide +kernel
theorem dX8_tell_16 : decode cX8_tell 16 = .ok (.imul, 1) := by decide +kernel
theorem dX8_tell_17 : decode cX8_tell 17 = .ok (.iaload, 1) := by decide +kernel
theorem dX8_tell_18 : decode cX8_tell 18 = .ok (.istore_n 2, 1) := by decide +kernel
theorem dX8_tell_19 : decode cX8_tell 19 = .ok (.aload_n 0, 1) := by decide +kernel
theorem dX8_tell_20 : decode cX8_tell 20 = .ok (.getfield 38, 3) := by decide +kernel
theorem dX8_tell_23 : decode cX8_tell 23 = .ok (.iload_n 1, 1) := by decide +kernel
theorem dX8_tell_24 : decode cX8_tell 24 = .ok (.iaload, 1) := by decide +kernel
theorem dX8_tell_25 : decode cX8_tell 25 = .ok (.lookupswitch 69 #[(1, 27), (2, 42)], 27) := by decide +kernel
theorem dX8_tell_52 : decode cX8_tell 52 = .ok (.aload_n 0, 1) := by decide +kernel
theorem dX8_tell_53 : decode cX8_tell 53 = .ok (.iconst 2, 1) := by decide +kernel
theorem dX8_tell_54 : decode cX8_tell 54 = .ok (.invokevirtual 232, 3) := by decide +kernel
theorem dX8_tell_57 : decode cX8_tell 57 = .ok (.aload_n 0, 1) := by decide +kernel
theorem dX8_tell_58 : decode cX8_tell 58 = .ok (.iconst 1, 1) := by decide +kernel
theorem dX8_tell_59 : decode cX8_tell 59 = .ok (.invokevirtual 232, 3) := by decide +kernel
theorem dX8_tell_62 : decode cX8_tell 62 = .ok (.iload_n 2, 1) := by decide +kernel
theorem dX8_tell_63 : decode cX8_tell 63 = .ok (.bipush 100, 2) := by decide +kernel
theorem dX8_tell_65 : decode cX8_tell 65 = .ok (.iadd, 1) := by decide +kernel
theorem dX8_tell_66 : decode cX8_tell 66 = .ok (.ireturn, 1) := by decide +kernel
theorem dX8_tell_67 : decode cX8_tell 67 = .ok (.aload_n 0, 1) := by decide +kernel
theorem dX8_tell_68 : decode cX8_tell 68 = .ok (.iconst 3, 1) := by decide +kernel
theorem dX8_tell_69 : decode cX8_tell 69 = .ok (.invokevirtual 232, 3) := by decide +kernel
theorem dX8_tell_72 : decode cX8_tell 72 = .ok (.aload_n 0, 1) := by decide +kernel
theorem dX8_tell_73 : decode cX8_tell 73 = .ok (.iconst 2, 1) := by decide +kernel
theorem dX8_tell_74 : decode cX8_tell 74 = .ok (.invokevirtual 232, 3) := by decide +kernel
theorem dX8_tell_77 : decode cX8_tell 77 = .ok (.aload_n 0, 1) := by decide +kernel
theorem dX8_tell_78 : decode cX8_tell 78 = .ok (.iconst 1, 1) := by decide +kernel
theorem dX8_tell_79 : decode cX8_tell 79 = .ok (.invokevirtual 232, 3) := by decide +kernel
theorem dX8_tell_82 : decode cX8_tell 82 = .ok (.aload_n 0, 1) := by decide +kernel
theorem dX8_tell_83 : decode cX8_tell 83 = .ok (.iconst 1, 1) := by decide +kernel
theorem dX8_tell_84 : decode cX8_tell 84 = .ok (.invokevirtual 232, 3) := by decide +kernel
theorem dX8_tell_87 : decode cX8_tell 87 = .ok (.iconst 2, 1) := by decide +kernel
theorem dX8_tell_88 : decode cX8_tell 88 = .ok (.iload_n 2, 1) := by decide +kernel
theorem dX8_tell_89 : decode cX8_tell 89 = .ok (.imul, 1) := by decide +kernel
theorem dX8_tell_90 : decode cX8_tell 90 = .ok (.bipush 100, 2) := by decide +kernel
theorem dX8_tell_92 : decode cX8_tell 92 = .ok (.iadd, 1) := by decide +kernel
theorem dX8_tell_93 : decode cX8_tell 93 = .ok (.ireturn, 1) := by decide +kernel
theorem dX8_tell_94 : decode cX8_tell 94 = .ok (.aload_n 0, 1) := by decide +kernel
theorem dX8_tell_95 : decode cX8_tell 95 = .ok (.iconst 1, 1) := by decide +kernel
theorem dX8_tell_96 : decode cX8_tell 96 = .ok (.invokevirtual 232, 3) := by decide +kernel
theorem dX8_tell_99 : decode cX8_tell 99 = .ok (.iload_n 2, 1) := by decide +kernel
theorem dX8_tell_100 : decode cX8_tell 100 = .ok (.ireturn, 1) := by decide +kernel
set_option maxRecDepth 20000 in
theorem ggX8_name_X8_isCoat : GoodIn wsX8_name wsX8_isCoat := goodIn_r _ [6, 7, 13, 14, 15, 16, 17, 18, 19, 20, 21, 22, 23, 24, 25, 26, 27, 28, 29, 30, 31, 32, 33, 34, 35, 36, 37, 38, 39, 40, 41, 42, 43, 44, 45, 46, 47] (by decide +kernel) (by decide +kernel)
set_option maxRecDepth 20000 in
theorem gX8_name_X8_isCoat : GoodIn wsX8_name (wsV RX8 137 RX8 yX8_isCoat wsX8_isCoat) := goodIn_app (goodIn_of _ (by decide +kernel)) ggX8_name_X8_isCoat
set_option maxRecDepth 20000 in
theorem ggX8_name_X8_begins : GoodIn wsX8_name wsX8_begins := goodIn_r _ [11, 12, 13, 14, 15, 16, 17, 18, 19, 20, 21, 22, 23, 24, 25, 26, 27, 28, 29, 30, 31, 32, 33, 34, 35, 36, 37, 38, 39, 40, 41, 42, 43, 44, 45, 46, 47] (by decide +kernel) (by decide +kernel)
set_option maxRecDepth 20000 in
theorem gX8_name_X8_begins : GoodIn wsX8_name (wsV RX8 232 RX8 yX8_begins wsX8_begins) := goodIn_app (goodIn_of _ (by decide +kernel)) ggX8_name_X8_begins
theorem dX8_name_0 : decode cX8_name 0 = .ok (.aload_n 0, 1) := by decide +kernel
theorem dX8_name_1 : decode cX8_name 1 = .ok (.iload_n 1, 1) := by decide +kernel
theorem dX8_name_2 : decode cX8_name 2 = .ok (.invokevirtual 137, 3) := by decide +kernel
theorem dX8_name_5 : decode cX8_name 5 = .ok (.ifCond .ne 5, 3) := by decide +kernel
theorem dX8_name_8 : decode cX8_name 8 = .ok (.iconst (-1), 1) := by decide +kernel
theorem dX8_name_9 : decode cX8_name 9 = .ok (.ireturn, 1) := by decide +kernel
theorem dX8_name_10 : decode cX8_name 10 = .ok (.aload_n 0, 1) := by decide +kernel
theorem dX8_name_11 : decode cX8_name 11 = .ok (.aload_n 0, 1) := by decide +kernel
theorem dX8_name_12 : decode cX8_name 12 = .ok (.getfield 38, 3) := by decide +kernel
theorem dX8_name_15 : decode cX8_name 15 = .ok (.iload_n 1, 1) := by decide +kernel
theorem dX8_name_16 : decode cX8_name 16 = .ok (.iaload, 1) := by decide +kernel
theorem dX8_name_17 : decode cX8_name 17 = .ok (.iconst 2, 1) := by decide +kernel
theorem dX8_name_18 : decode cX8_name 18 = .ok (.if_icmp .ne 7, 3) := by decide +kernel
theorem dX8_name_21 : decode cX8_name 21 = .ok (.iconst 5, 1) := by decide +kernel
theorem dX8_name_22 : decode cX8_name 22 = .ok (.goto 4, 3) := by decide +kernel
theorem dX8_name_25 : decode cX8_name 25 = .ok (.iconst 4, 1) := by decide +kernel
theorem dX8_name_26 : decode cX8_name 26 = .ok (.invokevirtual 232, 3) := by decide +kernel
theorem dX8_name_29 : decode cX8_name 29 = .ok (.aload_n 0, 1) := by decide +kernel
theorem dX8_name_30 : decode cX8_name 30 = .ok (.getfield 38, 3) := by decide +kernel
theorem dX8_name_33 : decode cX8_name 33 = .ok (.iload_n 1, 1) := by decide +kernel
theorem dX8_name_34 : decode cX8_name 34 = .ok (.iaload, 1) := by decide +kernel
theorem dX8_name_35 : decode cX8_name 35 = .ok (.iconst 2, 1) := by decide +kernel
theorem dX8_name_36 : decode cX8_name 36 = .ok (.if_icmp .ne 8, 3) := by decide +kernel
theorem dX8_name_39 : decode cX8_name 39 = .ok (.bipush 90, 2) := by decide +kernel
theorem dX8_name_41 : decode cX8_name 41 = .ok (.goto 4, 3) := by decide +kernel
theorem dX8_name_44 : decode cX8_name 44 = .ok (.iload_n 1, 1) := by decide +kernel
theorem dX8_name_45 : decode cX8_name 45 = .ok (.ireturn, 1) := by decide +kernel
set_option maxRecDepth 20000 in
theorem ggX8_as_X8_isCoat : GoodIn wsX8_as wsX8_isCoat := goodIn_r _ [7, 8, 16, 17, 18, 19, 20, 21, 22, 23, 24, 25, 26, 27, 28, 29, 30, 31, 32, 33, 34, 35, 36, 37, 38, 39, 40, 41, 42, 43, 44, 45, 46, 47, 48, 49, 50] (by decide +kernel) (by decide +kernel)
set_option maxRecDepth 20000 in
theorem gX8_as_X8_isCoat : GoodIn wsX8_as (wsV RX8 137 RX8 yX8_isCoat wsX8_isCoat) := goodIn_app (goodIn_of _ (by decide +kernel)) ggX8_as_X8_isCoat
set_option maxRecDepth 20000 in
theorem ggX8_as_X8_within : GoodIn wsX8_as wsX8_within := goodIn_r _ [11] (by decide +kernel) (by decide +kernel)
set_option maxRecDepth 20000 in
theorem gX8_as_X8_within : GoodIn wsX8_as (va_wsS RX8 71 yX8_within wsX8_within) := goodIn_app (goodIn_of _ (by decide +kernel)) ggX8_as_X8_within
set_option maxRecDepth 20000 in
theorem ggX8_as_X8_fails : GoodIn wsX8_as wsX8_fails := goodIn_r _ [15, 1, 16, 17, 18, 19, 20, 21, 22, 23, 24, 25, 26, 27, 28, 29, 30, 31, 32, 33, 34, 35, 36, 37, 38, 39, 40, 41, 42, 43, 44, 45, 46, 47, 48, 49, 50] (by decide +kernel) (by decide +kernel)
set_option maxRecDepth 20000 in
theorem gX8_as_X8_fails : GoodIn wsX8_as (wsV RX8 99 RX8 yX8_fails wsX8_fails) := goodIn_app (goodIn_of _ (by decide +kernel)) ggX8_as_X8_fails
theorem dX8_as_0 : decode cX8_as 0 = .ok (.aload_n 0, 1) := by decide +kernel
theorem dX8_as_1 : decode cX8_as 1 = .ok (.iconst 0, 1) := by decide +kernel
theorem dX8_as_2 : decode cX8_as 2 = .ok (.putfield 65, 3) := by decide +kernel
theorem dX8_as_5 : decode cX8_as 5 = .ok (.aload_n 0, 1) := by decide +kernel
theorem dX8_as_6 : decode cX8_as 6 = .ok (.iload_n 1, 1) := by decide +kernel
theorem dX8_as_7 : decode cX8_as 7 = .ok (.invokevirtual 137, 3) := by decide +kernel
theorem dX8_as_10 : decode cX8_as 10 = .ok (.ifCond .ne 5, 3) := by decide +kernel
theorem dX8_as_13 : decode cX8_as 13 = .ok (.iconst (-1), 1) := by decide +kernel
theorem dX8_as_14 : decode cX8_as 14 = .ok (.ireturn, 1) := by decide +kernel
theorem dX8_as_15 : decode cX8_as 15 = .ok (.iload_n 2, 1) := by decide +kernel
theorem dX8_as_16 : decode cX8_as 16 = .ok (.iconst 0, 1) := by decide +kernel
theorem dX8_as_17 : decode cX8_as 17 = .ok (.iconst 2, 1) := by decide +kernel
theorem dX8_as_18 : decode cX8_as 18 = .ok (.invokestatic 71, 3) := by decide +kernel
theorem dX8_as_21 : decode cX8_as 21 = .ok (.ifCond .ne 6, 3) := by decide +kernel
theorem dX8_as_24 : decode cX8_as 24 = .ok (.bipush (-2), 2) := by decide +kernel
theorem dX8_as_26 : decode cX8_as 26 = .ok (.ireturn, 1) := by decide +kernel
theorem dX8_as_27 : decode cX8_as 27 = .ok (.aload_n 0, 1) := by decide +kernel
theorem dX8_as_28 : decode cX8_as 28 = .ok (.getfield 38, 3) := by decide +kernel
theorem dX8_as_31 : decode cX8_as 31 = .ok (.iload_n 1, 1) := by decide +kernel
theorem dX8_as_32 : decode cX8_as 32 = .ok (.iaload, 1) := by decide +kernel
theorem dX8_as_33 : decode cX8_as 33 = .ok (.iload_n 2, 1) := by decide +kernel
theorem dX8_as_34 : decode cX8_as 34 = .ok (.if_icmp .lt 7, 3) := by decide +kernel
theorem dX8_as_37 : decode cX8_as 37 = .ok (.iconst 1, 1) := by decide +kernel
theorem dX8_as_38 : decode cX8_as 38 = .ok (.goto 8, 3) := by decide +kernel
theorem dX8_as_41 : decode cX8_as 41 = .ok (.aload_n 0, 1) := by decide +kernel
theorem dX8_as_42 : decode cX8_as 42 = .ok (.iconst 2, 1) := by decide +kernel
theorem dX8_as_43 : decode cX8_as 43 = .ok (.invokevirtual 99, 3) := by decide +kernel
theorem dX8_as_46 : decode cX8_as 46 = .ok (.ireturn, 1) := by decide +kernel
theorem dX8_trace_0 : decode cX8_trace 0 = .ok (.aload_n 0, 1) := by decide +kernel
theorem dX8_trace_1 : decode cX8_trace 1 = .ok (.getfield 229, 3) := by decide +kernel
theorem dX8_trace_4 : decode cX8_trace 4 = .ok (.ireturn, 1) := by decide +kernel
theorem dX8_fault_0 : decode cX8_fault 0 = .ok (.aload_n 0, 1) := by decide +kernel
theorem dX8_fault_1 : decode cX8_fault 1 = .ok (.getfield 65, 3) := by decide +kernel
theorem dX8_fault_4 : decode cX8_fault 4 = .ok (.ireturn, 1) := by decide +kernel
set_option maxRecDepth 20000 in
theorem ggX8_many_X8_all : GoodIn wsX8_many wsX8_all := goodIn_r _ [11, 12, 1, 13, 14, 15, 16, 17, 18, 19, 20, 21, 22, 23, 24, 25, 26, 27, 28, 29, 30, 31, 32, 33, 34, 35, 36, 37, 38, 39, 40, 41, 42, 43, 44, 45, 46, 47] (by decide +kernel) (by decide +kernel)
set_option maxRecDepth 20000 in
theorem gX8_many_X8_all : GoodIn wsX8_many (wsV RX8 81 RX8 yX8_all wsX8_all) := goodIn_app (goodIn_of _ (by decide +kernel)) ggX8_many_X8_all
theorem dX8_many_0 : decode cX8_many 0 = .ok (.iload_n 1, 1) := by decide +kernel
theorem dX8_many_1 : decode cX8_many 1 = .ok (.tableswitch 78 0 6 #[43, 48, 53, 58, 63, 68, 73], 43) := by decide +kernel
theorem dX8_many_44 : decode cX8_many 44 = .ok (.aload_n 0, 1) := by decide +kernel
theorem dX8_many_45 : decode cX8_many 45 = .ok (.invokevirtual 81, 3) := by decide +kernel
theorem dX8_many_48 : decode cX8_many 48 = .ok (.ireturn, 1) := by decide +kernel
theorem dX8_many_49 : decode cX8_many 49 = .ok (.aload_n 0, 1) := by decide +kernel
theorem dX8_many_50 : decode cX8_many 50 = .ok (.getfield 78, 3) := by decide +kernel
theorem dX8_many_53 : decode cX8_many 53 = .ok (.ireturn, 1) := by decide +kernel
theorem dX8_many_54 : decode cX8_many 54 = .ok (.aload_n 0, 1) := by decide +kernel
theorem dX8_many_55 : decode cX8_many 55 = .ok (.getfield 124, 3) := by decide +kernel
theorem dX8_many_58 : decode cX8_many 58 = .ok (.ireturn, 1) := by decide +kernel
theorem dX8_many_59 : decode cX8_many 59 = .ok (.aload_n 0, 1) := by decide +kernel
theorem dX8_many_60 : decode cX8_many 60 = .ok (.getfield 121, 3) := by decide +kernel
theorem dX8_many_63 : decode cX8_many 63 = .ok (.ireturn, 1) := by decide +kernel
theorem dX8_many_64 : decode cX8_many 64 = .ok (.aload_n 0, 1) := by decide +kernel
theorem dX8_many_65 : decode cX8_many 65 = .ok (.getfield 112, 3) := by decide +kernel
theorem dX8_many_68 : decode cX8_many 68 = .ok (.ireturn, 1) := by decide +kernel
theorem dX8_many_69 : decode cX8_many 69 = .ok (.aload_n 0, 1) := by decide +kernel
theorem dX8_many_70 : decode cX8_many 70 = .ok (.getfield 115, 3) := by decide +kernel
theorem dX8_many_73 : decode cX8_many 73 = .ok (.ireturn, 1) := by decide +kernel
theorem dX8_many_74 : decode cX8_many 74 = .ok (.aload_n 0, 1) := by decide +kernel
theorem dX8_many_75 : decode cX8_many 75 = .ok (.getfield 118, 3) := by decide +kernel
theorem dX8_many_78 : decode cX8_many 78 = .ok (.ireturn, 1) := by decide +kernel
theorem dX8_many_79 : decode cX8_many 79 = .ok (.bipush (-2), 2) := by decide +kernel
theorem dX8_many_81 : decode cX8_many 81 = .ok (.ireturn, 1) := by decide +kernel
