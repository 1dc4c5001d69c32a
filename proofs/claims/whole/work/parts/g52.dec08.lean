theorem dX12_tells_144 : decode cX12_tells 144 = .ok (.iload_n 2, 1) := by decide +kernel
theorem dX12_tells_145 : decode cX12_tells 145 = .ok (.iaload, 1) := by decide +kernel
theorem dX12_tells_146 : decode cX12_tells 146 = .ok (.iload_n 1, 1) := by decide +kernel
theorem dX12_tells_147 : decode cX12_tells 147 = .ok (.if_icmp .ne 10, 3) := by decide +kernel
theorem dX12_tells_150 : decode cX12_tells 150 = .ok (.aload_n 0, 1) := by decide +kernel
theorem dX12_tells_151 : decode cX12_tells 151 = .ok (.getfield 59, 3) := by decide +kernel
theorem dX12_tells_154 : decode cX12_tells 154 = .ok (.iload_n 2, 1) := by decide +kernel
theorem dX12_tells_155 : decode cX12_tells 155 = .ok (.iconst (-1), 1) := by decide +kernel
theorem dX12_tells_156 : decode cX12_tells 156 = .ok (.iastore, 1) := by decide +kernel
theorem dX12_tells_157 : decode cX12_tells 157 = .ok (.return_, 1) := by decide +kernel
theorem dX12_times_0 : decode cX12_times 0 = .ok (.aload_n 0, 1) := by decide +kernel
theorem dX12_times_1 : decode cX12_times 1 = .ok (.getfield 285, 3) := by decide +kernel
theorem dX12_times_4 : decode cX12_times 4 = .ok (.aload_n 0, 1) := by decide +kernel
theorem dX12_times_5 : decode cX12_times 5 = .ok (.getfield 131, 3) := by decide +kernel
theorem dX12_times_8 : decode cX12_times 8 = .ok (.iload_n 1, 1) := by decide +kernel
theorem dX12_times_9 : decode cX12_times 9 = .ok (.iaload, 1) := by decide +kernel
theorem dX12_times_10 : decode cX12_times 10 = .ok (.isub, 1) := by decide +kernel
theorem dX12_times_11 : decode cX12_times 11 = .ok (.istore_n 2, 1) := by decide +kernel
theorem dX12_times_12 : decode cX12_times 12 = .ok (.aload_n 0, 1) := by decide +kernel
theorem dX12_times_13 : decode cX12_times 13 = .ok (.getfield 95, 3) := by decide +kernel
theorem dX12_times_16 : decode cX12_times 16 = .ok (.iload_n 1, 1) := by decide +kernel
theorem dX12_times_17 : decode cX12_times 17 = .ok (.iaload, 1) := by decide +kernel
theorem dX12_times_18 : decode cX12_times 18 = .ok (.tableswitch 107 0 4 #[34, 51, 69, 107, 90], 34) := by decide +kernel
theorem dX12_times_52 : decode cX12_times 52 = .ok (.iload_n 2, 1) := by decide +kernel
theorem dX12_times_53 : decode cX12_times 53 = .ok (.sipush 500, 3) := by decide +kernel
theorem dX12_times_56 : decode cX12_times 56 = .ok (.if_icmp .ne 116, 3) := by decide +kernel
theorem dX12_times_59 : decode cX12_times 59 = .ok (.aload_n 0, 1) := by decide +kernel
theorem dX12_times_60 : decode cX12_times 60 = .ok (.iload_n 1, 1) := by decide +kernel
theorem dX12_times_61 : decode cX12_times 61 = .ok (.iconst 1, 1) := by decide +kernel
theorem dX12_times_62 : decode cX12_times 62 = .ok (.iconst (-1), 1) := by decide +kernel
theorem dX12_times_63 : decode cX12_times 63 = .ok (.invokevirtual 323, 3) := by decide +kernel
theorem dX12_times_66 : decode cX12_times 66 = .ok (.goto 106, 3) := by decide +kernel
theorem dX12_times_69 : decode cX12_times 69 = .ok (.iload_n 2, 1) := by decide +kernel
theorem dX12_times_70 : decode cX12_times 70 = .ok (.sipush 500, 3) := by decide +kernel
theorem dX12_times_73 : decode cX12_times 73 = .ok (.if_icmp .ne 99, 3) := by decide +kernel
theorem dX12_times_76 : decode cX12_times 76 = .ok (.aload_n 0, 1) := by decide +kernel
theorem dX12_times_77 : decode cX12_times 77 = .ok (.iload_n 1, 1) := by decide +kernel
theorem dX12_times_78 : decode cX12_times 78 = .ok (.bipush 6, 2) := by decide +kernel
theorem dX12_times_80 : decode cX12_times 80 = .ok (.iconst (-1), 1) := by decide +kernel
theorem dX12_times_81 : decode cX12_times 81 = .ok (.invokevirtual 323, 3) := by decide +kernel
theorem dX12_times_84 : decode cX12_times 84 = .ok (.goto 88, 3) := by decide +kernel
theorem dX12_times_87 : decode cX12_times 87 = .ok (.aload_n 0, 1) := by decide +kernel
theorem dX12_times_88 : decode cX12_times 88 = .ok (.getfield 107, 3) := by decide +kernel
theorem dX12_times_91 : decode cX12_times 91 = .ok (.iload_n 1, 1) := by decide +kernel
theorem dX12_times_92 : decode cX12_times 92 = .ok (.iaload, 1) := by decide +kernel
theorem dX12_times_93 : decode cX12_times 93 = .ok (.invokestatic 349, 3) := by decide +kernel
theorem dX12_times_96 : decode cX12_times 96 = .ok (.ifCond .eq 76, 3) := by decide +kernel
theorem dX12_times_99 : decode cX12_times 99 = .ok (.aload_n 0, 1) := by decide +kernel
theorem dX12_times_100 : decode cX12_times 100 = .ok (.iload_n 1, 1) := by decide +kernel
theorem dX12_times_101 : decode cX12_times 101 = .ok (.iload_n 2, 1) := by decide +kernel
theorem dX12_times_102 : decode cX12_times 102 = .ok (.invokevirtual 399, 3) := by decide +kernel
theorem dX12_times_105 : decode cX12_times 105 = .ok (.goto 67, 3) := by decide +kernel
theorem dX12_times_108 : decode cX12_times 108 = .ok (.iload_n 2, 1) := by decide +kernel
theorem dX12_times_109 : decode cX12_times 109 = .ok (.sipush 3000, 3) := by decide +kernel
theorem dX12_times_112 : decode cX12_times 112 = .ok (.if_icmp .ne 60, 3) := by decide +kernel
theorem dX12_times_115 : decode cX12_times 115 = .ok (.aload_n 0, 1) := by decide +kernel
theorem dX12_times_116 : decode cX12_times 116 = .ok (.iload_n 1, 1) := by decide +kernel
theorem dX12_times_117 : decode cX12_times 117 = .ok (.iconst 4, 1) := by decide +kernel
theorem dX12_times_118 : decode cX12_times 118 = .ok (.iconst (-1), 1) := by decide +kernel
theorem dX12_times_119 : decode cX12_times 119 = .ok (.invokevirtual 323, 3) := by decide +kernel
theorem dX12_times_122 : decode cX12_times 122 = .ok (.goto 50, 3) := by decide +kernel
theorem dX12_times_125 : decode cX12_times 125 = .ok (.aload_n 0, 1) := by decide +kernel
theorem dX12_times_126 : decode cX12_times 126 = .ok (.getfield 104, 3) := by decide +kernel
theorem dX12_times_129 : decode cX12_times 129 = .ok (.iload_n 1, 1) := by decide +kernel
theorem dX12_times_130 : decode cX12_times 130 = .ok (.iaload, 1) := by decide +kernel
theorem dX12_times_131 : decode cX12_times 131 = .ok (.invokestatic 349, 3) := by decide +kernel
theorem dX12_times_134 : decode cX12_times 134 = .ok (.ifCond .eq 38, 3) := by decide +kernel
theorem dX12_times_137 : decode cX12_times 137 = .ok (.iload_n 2, 1) := by decide +kernel
theorem dX12_times_138 : decode cX12_times 138 = .ok (.ifCond .le 34, 3) := by decide +kernel
theorem dX12_times_141 : decode cX12_times 141 = .ok (.iload_n 2, 1) := by decide +kernel
theorem dX12_times_142 : decode cX12_times 142 = .ok (.aload_n 0, 1) := by decide +kernel
theorem dX12_times_143 : decode cX12_times 143 = .ok (.getfield 243, 3) := by decide +kernel
theorem dX12_times_146 : decode cX12_times 146 = .ok (.aload_n 0, 1) := by decide +kernel
theorem dX12_times_147 : decode cX12_times 147 = .ok (.getfield 125, 3) := by decide +kernel
theorem dX12_times_150 : decode cX12_times 150 = .ok (.iload_n 1, 1) := by decide +kernel
theorem dX12_times_151 : decode cX12_times 151 = .ok (.iaload, 1) := by decide +kernel
theorem dX12_times_152 : decode cX12_times 152 = .ok (.iaload, 1) := by decide +kernel
theorem dX12_times_153 : decode cX12_times 153 = .ok (.irem, 1) := by decide +kernel
theorem dX12_times_154 : decode cX12_times 154 = .ok (.ifCond .ne 18, 3) := by decide +kernel
theorem dX12_times_157 : decode cX12_times 157 = .ok (.aload_n 0, 1) := by decide +kernel
theorem dX12_times_158 : decode cX12_times 158 = .ok (.iload_n 1, 1) := by decide +kernel
theorem dX12_times_159 : decode cX12_times 159 = .ok (.aload_n 0, 1) := by decide +kernel
theorem dX12_times_160 : decode cX12_times 160 = .ok (.aload_n 0, 1) := by decide +kernel
theorem dX12_times_161 : decode cX12_times 161 = .ok (.getfield 125, 3) := by decide +kernel
theorem dX12_times_164 : decode cX12_times 164 = .ok (.iload_n 1, 1) := by decide +kernel
theorem dX12_times_165 : decode cX12_times 165 = .ok (.iaload, 1) := by decide +kernel
theorem dX12_times_166 : decode cX12_times 166 = .ok (.invokevirtual 382, 3) := by decide +kernel
theorem dX12_times_169 : decode cX12_times 169 = .ok (.invokevirtual 385, 3) := by decide +kernel
theorem dX12_times_172 : decode cX12_times 172 = .ok (.return_, 1) := by decide +kernel
theorem dX12_ringsLong_0 : decode cX12_ringsLong 0 = .ok (.aload_n 0, 1) := by decide +kernel
theorem dX12_ringsLong_1 : decode cX12_ringsLong 1 = .ok (.getfield 107, 3) := by decide +kernel
theorem dX12_ringsLong_4 : decode cX12_ringsLong 4 = .ok (.iload_n 1, 1) := by decide +kernel
theorem dX12_ringsLong_5 : decode cX12_ringsLong 5 = .ok (.iaload, 1) := by decide +kernel
theorem dX12_ringsLong_6 : decode cX12_ringsLong 6 = .ok (.istore_n 3, 1) := by decide +kernel
theorem dX12_ringsLong_7 : decode cX12_ringsLong 7 = .ok (.aload_n 0, 1) := by decide +kernel
theorem dX12_ringsLong_8 : decode cX12_ringsLong 8 = .ok (.getfield 110, 3) := by decide +kernel
theorem dX12_ringsLong_11 : decode cX12_ringsLong 11 = .ok (.iload_n 1, 1) := by decide +kernel
theorem dX12_ringsLong_12 : decode cX12_ringsLong 12 = .ok (.iaload, 1) := by decide +kernel
theorem dX12_ringsLong_13 : decode cX12_ringsLong 13 = .ok (.iconst (-1), 1) := by decide +kernel
theorem dX12_ringsLong_14 : decode cX12_ringsLong 14 = .ok (.if_icmp .eq 142, 3) := by decide +kernel
theorem dX12_ringsLong_17 : decode cX12_ringsLong 17 = .ok (.iload_n 2, 1) := by decide +kernel
theorem dX12_ringsLong_18 : decode cX12_ringsLong 18 = .ok (.sipush 300, 3) := by decide +kernel
theorem dX12_ringsLong_21 : decode cX12_ringsLong 21 = .ok (.if_icmp .eq 4, 3) := by decide +kernel
theorem dX12_ringsLong_24 : decode cX12_ringsLong 24 = .ok (.return_, 1) := by decide +kernel
theorem dX12_ringsLong_25 : decode cX12_ringsLong 25 = .ok (.aload_n 0, 1) := by decide +kernel
theorem dX12_ringsLong_26 : decode cX12_ringsLong 26 = .ok (.iload_n 3, 1) := by decide +kernel
theorem dX12_ringsLong_27 : decode cX12_ringsLong 27 = .ok (.invokevirtual 396, 3) := by decide +kernel
theorem dX12_ringsLong_30 : decode cX12_ringsLong 30 = .ok (.aload_n 0, 1) := by decide +kernel
theorem dX12_ringsLong_31 : decode cX12_ringsLong 31 = .ok (.getfield 71, 3) := by decide +kernel
theorem dX12_ringsLong_34 : decode cX12_ringsLong 34 = .ok (.iload_n 3, 1) := by decide +kernel
theorem dX12_ringsLong_35 : decode cX12_ringsLong 35 = .ok (.iconst 1, 1) := by decide +kernel
theorem dX12_ringsLong_36 : decode cX12_ringsLong 36 = .ok (.bastore, 1) := by decide +kernel
theorem dX12_ringsLong_37 : decode cX12_ringsLong 37 = .ok (.iconst 3, 1) := by decide +kernel
theorem dX12_ringsLong_38 : decode cX12_ringsLong 38 = .ok (.aload_n 0, 1) := by decide +kernel
theorem dX12_ringsLong_39 : decode cX12_ringsLong 39 = .ok (.getfield 101, 3) := by decide +kernel
theorem dX12_ringsLong_42 : decode cX12_ringsLong 42 = .ok (.iload_n 1, 1) := by decide +kernel
theorem dX12_ringsLong_43 : decode cX12_ringsLong 43 = .ok (.iaload, 1) := by decide +kernel
theorem dX12_ringsLong_44 : decode cX12_ringsLong 44 = .ok (.imul, 1) := by decide +kernel
theorem dX12_ringsLong_45 : decode cX12_ringsLong 45 = .ok (.aload_n 0, 1) := by decide +kernel
theorem dX12_ringsLong_46 : decode cX12_ringsLong 46 = .ok (.getfield 110, 3) := by decide +kernel
theorem dX12_ringsLong_49 : decode cX12_ringsLong 49 = .ok (.iload_n 1, 1) := by decide +kernel
theorem dX12_ringsLong_50 : decode cX12_ringsLong 50 = .ok (.iaload, 1) := by decide +kernel
theorem dX12_ringsLong_51 : decode cX12_ringsLong 51 = .ok (.iadd, 1) := by decide +kernel
theorem dX12_ringsLong_52 : decode cX12_ringsLong 52 = .ok (.istore 4, 2) := by decide +kernel
theorem dX12_ringsLong_54 : decode cX12_ringsLong 54 = .ok (.aload_n 0, 1) := by decide +kernel
theorem dX12_ringsLong_55 : decode cX12_ringsLong 55 = .ok (.getfield 155, 3) := by decide +kernel
theorem dX12_ringsLong_58 : decode cX12_ringsLong 58 = .ok (.iload 4, 2) := by decide +kernel
theorem dX12_ringsLong_60 : decode cX12_ringsLong 60 = .ok (.iaload, 1) := by decide +kernel
theorem dX12_ringsLong_61 : decode cX12_ringsLong 61 = .ok (.istore 5, 2) := by decide +kernel
theorem dX12_ringsLong_63 : decode cX12_ringsLong 63 = .ok (.iload 5, 2) := by decide +kernel
theorem dX12_ringsLong_65 : decode cX12_ringsLong 65 = .ok (.ifCond .le 37, 3) := by decide +kernel
theorem dX12_ringsLong_68 : decode cX12_ringsLong 68 = .ok (.aload_n 0, 1) := by decide +kernel
theorem dX12_ringsLong_69 : decode cX12_ringsLong 69 = .ok (.getfield 152, 3) := by decide +kernel
theorem dX12_ringsLong_72 : decode cX12_ringsLong 72 = .ok (.bipush 80, 2) := by decide +kernel
theorem dX12_ringsLong_74 : decode cX12_ringsLong 74 = .ok (.iload 4, 2) := by decide +kernel
theorem dX12_ringsLong_76 : decode cX12_ringsLong 76 = .ok (.imul, 1) := by decide +kernel
theorem dX12_ringsLong_77 : decode cX12_ringsLong 77 = .ok (.iload 5, 2) := by decide +kernel
theorem dX12_ringsLong_79 : decode cX12_ringsLong 79 = .ok (.iadd, 1) := by decide +kernel
theorem dX12_ringsLong_80 : decode cX12_ringsLong 80 = .ok (.aload_n 0, 1) := by decide +kernel
theorem dX12_ringsLong_81 : decode cX12_ringsLong 81 = .ok (.getfield 152, 3) := by decide +kernel
theorem dX12_ringsLong_84 : decode cX12_ringsLong 84 = .ok (.bipush 80, 2) := by decide +kernel
theorem dX12_ringsLong_86 : decode cX12_ringsLong 86 = .ok (.iload 4, 2) := by decide +kernel
theorem dX12_ringsLong_88 : decode cX12_ringsLong 88 = .ok (.imul, 1) := by decide +kernel
theorem dX12_ringsLong_89 : decode cX12_ringsLong 89 = .ok (.iload 5, 2) := by decide +kernel
theorem dX12_ringsLong_91 : decode cX12_ringsLong 91 = .ok (.iadd, 1) := by decide +kernel
theorem dX12_ringsLong_92 : decode cX12_ringsLong 92 = .ok (.iconst 1, 1) := by decide +kernel
theorem dX12_ringsLong_93 : decode cX12_ringsLong 93 = .ok (.isub, 1) := by decide +kernel
theorem dX12_ringsLong_94 : decode cX12_ringsLong 94 = .ok (.iaload, 1) := by decide +kernel
theorem dX12_ringsLong_95 : decode cX12_ringsLong 95 = .ok (.iastore, 1) := by decide +kernel
theorem dX12_ringsLong_96 : decode cX12_ringsLong 96 = .ok (.iinc 5 (-1), 3) := by decide +kernel
theorem dX12_ringsLong_99 : decode cX12_ringsLong 99 = .ok (.goto (-36), 3) := by decide +kernel
theorem dX12_ringsLong_102 : decode cX12_ringsLong 102 = .ok (.aload_n 0, 1) := by decide +kernel
theorem dX12_ringsLong_103 : decode cX12_ringsLong 103 = .ok (.getfield 152, 3) := by decide +kernel
theorem dX12_ringsLong_106 : decode cX12_ringsLong 106 = .ok (.bipush 80, 2) := by decide +kernel
theorem dX12_ringsLong_108 : decode cX12_ringsLong 108 = .ok (.iload 4, 2) := by decide +kernel
theorem dX12_ringsLong_110 : decode cX12_ringsLong 110 = .ok (.imul, 1) := by decide +kernel
theorem dX12_ringsLong_111 : decode cX12_ringsLong 111 = .ok (.iload_n 1, 1) := by decide +kernel
theorem dX12_ringsLong_112 : decode cX12_ringsLong 112 = .ok (.iastore, 1) := by decide +kernel
theorem dX12_ringsLong_113 : decode cX12_ringsLong 113 = .ok (.aload_n 0, 1) := by decide +kernel
theorem dX12_ringsLong_114 : decode cX12_ringsLong 114 = .ok (.getfield 155, 3) := by decide +kernel
theorem dX12_ringsLong_117 : decode cX12_ringsLong 117 = .ok (.iload 4, 2) := by decide +kernel
theorem dX12_ringsLong_119 : decode cX12_ringsLong 119 = .ok (.dup2, 1) := by decide +kernel
theorem dX12_ringsLong_120 : decode cX12_ringsLong 120 = .ok (.iaload, 1) := by decide +kernel
theorem dX12_ringsLong_121 : decode cX12_ringsLong 121 = .ok (.iconst 1, 1) := by decide +kernel
theorem dX12_ringsLong_122 : decode cX12_ringsLong 122 = .ok (.iadd, 1) := by decide +kernel
theorem dX12_ringsLong_123 : decode cX12_ringsLong 123 = .ok (.iastore, 1) := by decide +kernel
theorem dX12_ringsLong_124 : decode cX12_ringsLong 124 = .ok (.aload_n 0, 1) := by decide +kernel
theorem dX12_ringsLong_125 : decode cX12_ringsLong 125 = .ok (.getfield 107, 3) := by decide +kernel
theorem dX12_ringsLong_128 : decode cX12_ringsLong 128 = .ok (.iload_n 1, 1) := by decide +kernel
theorem dX12_ringsLong_129 : decode cX12_ringsLong 129 = .ok (.sipush 300, 3) := by decide +kernel
theorem dX12_ringsLong_132 : decode cX12_ringsLong 132 = .ok (.aload_n 0, 1) := by decide +kernel
theorem dX12_ringsLong_133 : decode cX12_ringsLong 133 = .ok (.getfield 110, 3) := by decide +kernel
theorem dX12_ringsLong_136 : decode cX12_ringsLong 136 = .ok (.iload_n 1, 1) := by decide +kernel
theorem dX12_ringsLong_137 : decode cX12_ringsLong 137 = .ok (.iaload, 1) := by decide +kernel
theorem dX12_ringsLong_138 : decode cX12_ringsLong 138 = .ok (.iadd, 1) := by decide +kernel
theorem dX12_ringsLong_139 : decode cX12_ringsLong 139 = .ok (.iastore, 1) := by decide +kernel
theorem dX12_ringsLong_140 : decode cX12_ringsLong 140 = .ok (.aload_n 0, 1) := by decide +kernel
theorem dX12_ringsLong_141 : decode cX12_ringsLong 141 = .ok (.getfield 110, 3) := by decide +kernel
theorem dX12_ringsLong_144 : decode cX12_ringsLong 144 = .ok (.iload_n 1, 1) := by decide +kernel
theorem dX12_ringsLong_145 : decode cX12_ringsLong 145 = .ok (.iconst (-1), 1) := by decide +kernel
theorem dX12_ringsLong_146 : decode cX12_ringsLong 146 = .ok (.iastore, 1) := by decide +kernel
theorem dX12_ringsLong_147 : decode cX12_ringsLong 147 = .ok (.aload_n 0, 1) := by decide +kernel
theorem dX12_ringsLong_148 : decode cX12_ringsLong 148 = .ok (.iload_n 1, 1) := by decide +kernel
theorem dX12_ringsLong_149 : decode cX12_ringsLong 149 = .ok (.iconst 4, 1) := by decide +kernel
theorem dX12_ringsLong_150 : decode cX12_ringsLong 150 = .ok (.invokevirtual 361, 3) := by decide +kernel
theorem dX12_ringsLong_153 : decode cX12_ringsLong 153 = .ok (.goto 82, 3) := by decide +kernel
theorem dX12_ringsLong_156 : decode cX12_ringsLong 156 = .ok (.iload_n 2, 1) := by decide +kernel
theorem dX12_ringsLong_157 : decode cX12_ringsLong 157 = .ok (.sipush 300, 3) := by decide +kernel
theorem dX12_ringsLong_160 : decode cX12_ringsLong 160 = .ok (.if_icmp .ne 61, 3) := by decide +kernel
theorem dX12_ringsLong_163 : decode cX12_ringsLong 163 = .ok (.aload_n 0, 1) := by decide +kernel
theorem dX12_ringsLong_164 : decode cX12_ringsLong 164 = .ok (.getfield 86, 3) := by decide +kernel
theorem dX12_ringsLong_167 : decode cX12_ringsLong 167 = .ok (.iconst 3, 1) := by decide +kernel
theorem dX12_ringsLong_168 : decode cX12_ringsLong 168 = .ok (.iload_n 3, 1) := by decide +kernel
theorem dX12_ringsLong_169 : decode cX12_ringsLong 169 = .ok (.imul, 1) := by decide +kernel
theorem dX12_ringsLong_170 : decode cX12_ringsLong 170 = .ok (.iconst 2, 1) := by decide +kernel
theorem dX12_ringsLong_171 : decode cX12_ringsLong 171 = .ok (.iadd, 1) := by decide +kernel
theorem dX12_ringsLong_172 : decode cX12_ringsLong 172 = .ok (.iaload, 1) := by decide +kernel
theorem dX12_ringsLong_173 : decode cX12_ringsLong 173 = .ok (.ifCond .le 48, 3) := by decide +kernel
theorem dX12_ringsLong_176 : decode cX12_ringsLong 176 = .ok (.aload_n 0, 1) := by decide +kernel
theorem dX12_ringsLong_177 : decode cX12_ringsLong 177 = .ok (.getfield 62, 3) := by decide +kernel
theorem dX12_ringsLong_180 : decode cX12_ringsLong 180 = .ok (.iload_n 3, 1) := by decide +kernel
theorem dX12_ringsLong_181 : decode cX12_ringsLong 181 = .ok (.iaload, 1) := by decide +kernel
theorem dX12_ringsLong_182 : decode cX12_ringsLong 182 = .ok (.iload_n 1, 1) := by decide +kernel
theorem dX12_ringsLong_183 : decode cX12_ringsLong 183 = .ok (.if_icmp .ne 8, 3) := by decide +kernel
theorem dX12_ringsLong_186 : decode cX12_ringsLong 186 = .ok (.aload_n 0, 1) := by decide +kernel
theorem dX12_ringsLong_187 : decode cX12_ringsLong 187 = .ok (.iload_n 3, 1) := by decide +kernel
theorem dX12_ringsLong_188 : decode cX12_ringsLong 188 = .ok (.invokevirtual 396, 3) := by decide +kernel
theorem dX12_ringsLong_191 : decode cX12_ringsLong 191 = .ok (.aload_n 0, 1) := by decide +kernel
theorem dX12_ringsLong_192 : decode cX12_ringsLong 192 = .ok (.getfield 59, 3) := by decide +kernel
theorem dX12_ringsLong_195 : decode cX12_ringsLong 195 = .ok (.iload_n 3, 1) := by decide +kernel
theorem dX12_ringsLong_196 : decode cX12_ringsLong 196 = .ok (.iaload, 1) := by decide +kernel
theorem dX12_ringsLong_197 : decode cX12_ringsLong 197 = .ok (.iload_n 1, 1) := by decide +kernel
theorem dX12_ringsLong_198 : decode cX12_ringsLong 198 = .ok (.if_icmp .ne 10, 3) := by decide +kernel
theorem dX12_ringsLong_201 : decode cX12_ringsLong 201 = .ok (.aload_n 0, 1) := by decide +kernel
theorem dX12_ringsLong_202 : decode cX12_ringsLong 202 = .ok (.getfield 59, 3) := by decide +kernel
theorem dX12_ringsLong_205 : decode cX12_ringsLong 205 = .ok (.iload_n 3, 1) := by decide +kernel
theorem dX12_ringsLong_206 : decode cX12_ringsLong 206 = .ok (.iconst (-1), 1) := by decide +kernel
theorem dX12_ringsLong_207 : decode cX12_ringsLong 207 = .ok (.iastore, 1) := by decide +kernel
theorem dX12_ringsLong_208 : decode cX12_ringsLong 208 = .ok (.aload_n 0, 1) := by decide +kernel
theorem dX12_ringsLong_209 : decode cX12_ringsLong 209 = .ok (.iload_n 1, 1) := by decide +kernel
theorem dX12_ringsLong_210 : decode cX12_ringsLong 210 = .ok (.iconst 3, 1) := by decide +kernel
theorem dX12_ringsLong_211 : decode cX12_ringsLong 211 = .ok (.iload_n 3, 1) := by decide +kernel
theorem dX12_ringsLong_212 : decode cX12_ringsLong 212 = .ok (.imul, 1) := by decide +kernel
theorem dX12_ringsLong_213 : decode cX12_ringsLong 213 = .ok (.iconst 2, 1) := by decide +kernel
theorem dX12_ringsLong_214 : decode cX12_ringsLong 214 = .ok (.iadd, 1) := by decide +kernel
theorem dX12_ringsLong_215 : decode cX12_ringsLong 215 = .ok (.invokevirtual 367, 3) := by decide +kernel
theorem dX12_ringsLong_218 : decode cX12_ringsLong 218 = .ok (.goto 17, 3) := by decide +kernel
theorem dX12_ringsLong_221 : decode cX12_ringsLong 221 = .ok (.iload_n 2, 1) := by decide +kernel
theorem dX12_ringsLong_222 : decode cX12_ringsLong 222 = .ok (.sipush 600, 3) := by decide +kernel
theorem dX12_ringsLong_225 : decode cX12_ringsLong 225 = .ok (.if_icmp .ne 10, 3) := by decide +kernel
theorem dX12_ringsLong_228 : decode cX12_ringsLong 228 = .ok (.aload_n 0, 1) := by decide +kernel
theorem dX12_ringsLong_229 : decode cX12_ringsLong 229 = .ok (.iload_n 1, 1) := by decide +kernel
theorem dX12_ringsLong_230 : decode cX12_ringsLong 230 = .ok (.iconst 4, 1) := by decide +kernel
theorem dX12_ringsLong_231 : decode cX12_ringsLong 231 = .ok (.iconst (-1), 1) := by decide +kernel
theorem dX12_ringsLong_232 : decode cX12_ringsLong 232 = .ok (.invokevirtual 323, 3) := by decide +kernel
theorem dX12_ringsLong_235 : decode cX12_ringsLong 235 = .ok (.return_, 1) := by decide +kernel
theorem dX12_timesOfAll_0 : decode cX12_timesOfAll 0 = .ok (.iconst (-1), 1) := by decide +kernel
theorem dX12_timesOfAll_1 : decode cX12_timesOfAll 1 = .ok (.istore_n 1, 1) := by decide +kernel
theorem dX12_timesOfAll_2 : decode cX12_timesOfAll 2 = .ok (.iconst 1, 1) := by decide +kernel
theorem dX12_timesOfAll_3 : decode cX12_timesOfAll 3 = .ok (.istore_n 2, 1) := by decide +kernel
theorem dX12_timesOfAll_4 : decode cX12_timesOfAll 4 = .ok (.iload_n 2, 1) := by decide +kernel
theorem dX12_timesOfAll_5 : decode cX12_timesOfAll 5 = .ok (.ifCond .eq 97, 3) := by decide +kernel
theorem dX12_timesOfAll_8 : decode cX12_timesOfAll 8 = .ok (.iconst (-1), 1) := by decide +kernel
theorem dX12_timesOfAll_9 : decode cX12_timesOfAll 9 = .ok (.istore_n 3, 1) := by decide +kernel
theorem dX12_timesOfAll_10 : decode cX12_timesOfAll 10 = .ok (.iconst 0, 1) := by decide +kernel
theorem dX12_timesOfAll_11 : decode cX12_timesOfAll 11 = .ok (.istore 4, 2) := by decide +kernel
theorem dX12_timesOfAll_13 : decode cX12_timesOfAll 13 = .ok (.iload 4, 2) := by decide +kernel
theorem dX12_timesOfAll_15 : decode cX12_timesOfAll 15 = .ok (.bipush 80, 2) := by decide +kernel
theorem dX12_timesOfAll_17 : decode cX12_timesOfAll 17 = .ok (.if_icmp .ge 55, 3) := by decide +kernel
theorem dX12_timesOfAll_20 : decode cX12_timesOfAll 20 = .ok (.aload_n 0, 1) := by decide +kernel
theorem dX12_timesOfAll_21 : decode cX12_timesOfAll 21 = .ok (.getfield 95, 3) := by decide +kernel
theorem dX12_timesOfAll_24 : decode cX12_timesOfAll 24 = .ok (.iload 4, 2) := by decide +kernel
theorem dX12_timesOfAll_26 : decode cX12_timesOfAll 26 = .ok (.iaload, 1) := by decide +kernel
theorem dX12_timesOfAll_27 : decode cX12_timesOfAll 27 = .ok (.iconst (-1), 1) := by decide +kernel
theorem dX12_timesOfAll_28 : decode cX12_timesOfAll 28 = .ok (.if_icmp .eq 38, 3) := by decide +kernel
theorem dX12_timesOfAll_31 : decode cX12_timesOfAll 31 = .ok (.aload_n 0, 1) := by decide +kernel
theorem dX12_timesOfAll_32 : decode cX12_timesOfAll 32 = .ok (.getfield 98, 3) := by decide +kernel
theorem dX12_timesOfAll_35 : decode cX12_timesOfAll 35 = .ok (.iload 4, 2) := by decide +kernel
theorem dX12_timesOfAll_37 : decode cX12_timesOfAll 37 = .ok (.iaload, 1) := by decide +kernel
theorem dX12_timesOfAll_38 : decode cX12_timesOfAll 38 = .ok (.iload_n 1, 1) := by decide +kernel
theorem dX12_timesOfAll_39 : decode cX12_timesOfAll 39 = .ok (.if_icmp .le 27, 3) := by decide +kernel
theorem dX12_timesOfAll_42 : decode cX12_timesOfAll 42 = .ok (.iload_n 3, 1) := by decide +kernel
theorem dX12_timesOfAll_43 : decode cX12_timesOfAll 43 = .ok (.iconst (-1), 1) := by decide +kernel
theorem dX12_timesOfAll_44 : decode cX12_timesOfAll 44 = .ok (.if_icmp .eq 19, 3) := by decide +kernel
theorem dX12_timesOfAll_47 : decode cX12_timesOfAll 47 = .ok (.aload_n 0, 1) := by decide +kernel
theorem dX12_timesOfAll_48 : decode cX12_timesOfAll 48 = .ok (.getfield 98, 3) := by decide +kernel
theorem dX12_timesOfAll_51 : decode cX12_timesOfAll 51 = .ok (.iload 4, 2) := by decide +kernel
theorem dX12_timesOfAll_53 : decode cX12_timesOfAll 53 = .ok (.iaload, 1) := by decide +kernel
theorem dX12_timesOfAll_54 : decode cX12_timesOfAll 54 = .ok (.aload_n 0, 1) := by decide +kernel
theorem dX12_timesOfAll_55 : decode cX12_timesOfAll 55 = .ok (.getfield 98, 3) := by decide +kernel
theorem dX12_timesOfAll_58 : decode cX12_timesOfAll 58 = .ok (.iload_n 3, 1) := by decide +kernel
theorem dX12_timesOfAll_59 : decode cX12_timesOfAll 59 = .ok (.iaload, 1) := by decide +kernel
theorem dX12_timesOfAll_60 : decode cX12_timesOfAll 60 = .ok (.if_icmp .ge 6, 3) := by decide +kernel
theorem dX12_timesOfAll_63 : decode cX12_timesOfAll 63 = .ok (.iload 4, 2) := by decide +kernel
theorem dX12_timesOfAll_65 : decode cX12_timesOfAll 65 = .ok (.istore_n 3, 1) := by decide +kernel
theorem dX12_timesOfAll_66 : decode cX12_timesOfAll 66 = .ok (.iinc 4 1, 3) := by decide +kernel
theorem dX12_timesOfAll_69 : decode cX12_timesOfAll 69 = .ok (.goto (-56), 3) := by decide +kernel
theorem dX12_timesOfAll_72 : decode cX12_timesOfAll 72 = .ok (.iload_n 3, 1) := by decide +kernel
theorem dX12_timesOfAll_73 : decode cX12_timesOfAll 73 = .ok (.iconst (-1), 1) := by decide +kernel
theorem dX12_timesOfAll_74 : decode cX12_timesOfAll 74 = .ok (.if_icmp .eq 7, 3) := by decide +kernel
theorem dX12_timesOfAll_77 : decode cX12_timesOfAll 77 = .ok (.iconst 1, 1) := by decide +kernel
theorem dX12_timesOfAll_78 : decode cX12_timesOfAll 78 = .ok (.goto 4, 3) := by decide +kernel
theorem dX12_timesOfAll_81 : decode cX12_timesOfAll 81 = .ok (.iconst 0, 1) := by decide +kernel
theorem dX12_timesOfAll_82 : decode cX12_timesOfAll 82 = .ok (.istore_n 2, 1) := by decide +kernel
theorem dX12_timesOfAll_83 : decode cX12_timesOfAll 83 = .ok (.iload_n 2, 1) := by decide +kernel
theorem dX12_timesOfAll_84 : decode cX12_timesOfAll 84 = .ok (.ifCond .eq 15, 3) := by decide +kernel
theorem dX12_timesOfAll_87 : decode cX12_timesOfAll 87 = .ok (.aload_n 0, 1) := by decide +kernel
theorem dX12_timesOfAll_88 : decode cX12_timesOfAll 88 = .ok (.getfield 98, 3) := by decide +kernel
theorem dX12_timesOfAll_91 : decode cX12_timesOfAll 91 = .ok (.iload_n 3, 1) := by decide +kernel
theorem dX12_timesOfAll_92 : decode cX12_timesOfAll 92 = .ok (.iaload, 1) := by decide +kernel
theorem dX12_timesOfAll_93 : decode cX12_timesOfAll 93 = .ok (.istore_n 1, 1) := by decide +kernel
theorem dX12_timesOfAll_94 : decode cX12_timesOfAll 94 = .ok (.aload_n 0, 1) := by decide +kernel
theorem dX12_timesOfAll_95 : decode cX12_timesOfAll 95 = .ok (.iload_n 3, 1) := by decide +kernel
theorem dX12_timesOfAll_96 : decode cX12_timesOfAll 96 = .ok (.invokevirtual 402, 3) := by decide +kernel
theorem dX12_timesOfAll_99 : decode cX12_timesOfAll 99 = .ok (.goto (-95), 3) := by decide +kernel
theorem dX12_timesOfAll_102 : decode cX12_timesOfAll 102 = .ok (.return_, 1) := by decide +kernel
theorem dX12_member_0 : decode cX12_member 0 = .ok (.iload_n 1, 1) := by decide +kernel
theorem dX12_member_1 : decode cX12_member 1 = .ok (.i2l, 1) := by decide +kernel
theorem dX12_member_2 : decode cX12_member 2 = .ok (.lconst 0, 1) := by decide +kernel
theorem dX12_member_3 : decode cX12_member 3 = .ok (.ldc2_w 281, 3) := by decide +kernel
theorem dX12_member_6 : decode cX12_member 6 = .ok (.invokestatic 268, 3) := by decide +kernel
theorem dX12_member_9 : decode cX12_member 9 = .ok (.ifCond .eq 10, 3) := by decide +kernel
theorem dX12_member_12 : decode cX12_member 12 = .ok (.iload_n 2, 1) := by decide +kernel
theorem dX12_member_13 : decode cX12_member 13 = .ok (.invokestatic 288, 3) := by decide +kernel
theorem dX12_member_16 : decode cX12_member 16 = .ok (.ifCond .ne 6, 3) := by decide +kernel
theorem dX12_member_19 : decode cX12_member 19 = .ok (.bipush (-2), 2) := by decide +kernel
theorem dX12_member_21 : decode cX12_member 21 = .ok (.ireturn, 1) := by decide +kernel
theorem dX12_member_22 : decode cX12_member 22 = .ok (.iconst 3, 1) := by decide +kernel
theorem dX12_member_23 : decode cX12_member 23 = .ok (.iload_n 2, 1) := by decide +kernel
theorem dX12_member_24 : decode cX12_member 24 = .ok (.bipush 8, 2) := by decide +kernel
theorem dX12_member_26 : decode cX12_member 26 = .ok (.idiv, 1) := by decide +kernel
theorem dX12_member_27 : decode cX12_member 27 = .ok (.imul, 1) := by decide +kernel
theorem dX12_member_28 : decode cX12_member 28 = .ok (.iload_n 1, 1) := by decide +kernel
theorem dX12_member_29 : decode cX12_member 29 = .ok (.iadd, 1) := by decide +kernel
theorem dX12_member_30 : decode cX12_member 30 = .ok (.istore_n 3, 1) := by decide +kernel
theorem dX12_member_31 : decode cX12_member 31 = .ok (.iconst 0, 1) := by decide +kernel
theorem dX12_member_32 : decode cX12_member 32 = .ok (.istore 4, 2) := by decide +kernel
theorem dX12_member_34 : decode cX12_member 34 = .ok (.iload 4, 2) := by decide +kernel
theorem dX12_member_36 : decode cX12_member 36 = .ok (.aload_n 0, 1) := by decide +kernel
theorem dX12_member_37 : decode cX12_member 37 = .ok (.getfield 146, 3) := by decide +kernel
theorem dX12_member_40 : decode cX12_member 40 = .ok (.iload_n 3, 1) := by decide +kernel
theorem dX12_member_41 : decode cX12_member 41 = .ok (.iaload, 1) := by decide +kernel
theorem dX12_member_42 : decode cX12_member 42 = .ok (.if_icmp .ge 28, 3) := by decide +kernel
theorem dX12_member_45 : decode cX12_member 45 = .ok (.aload_n 0, 1) := by decide +kernel
theorem dX12_member_46 : decode cX12_member 46 = .ok (.getfield 143, 3) := by decide +kernel
theorem dX12_member_49 : decode cX12_member 49 = .ok (.bipush 8, 2) := by decide +kernel
theorem dX12_member_51 : decode cX12_member 51 = .ok (.iload_n 3, 1) := by decide +kernel
theorem dX12_member_52 : decode cX12_member 52 = .ok (.imul, 1) := by decide +kernel
theorem dX12_member_53 : decode cX12_member 53 = .ok (.iload 4, 2) := by decide +kernel
theorem dX12_member_55 : decode cX12_member 55 = .ok (.iadd, 1) := by decide +kernel
theorem dX12_member_56 : decode cX12_member 56 = .ok (.iaload, 1) := by decide +kernel
theorem dX12_member_57 : decode cX12_member 57 = .ok (.iload_n 2, 1) := by decide +kernel
theorem dX12_member_58 : decode cX12_member 58 = .ok (.if_icmp .ne 6, 3) := by decide +kernel
theorem dX12_member_61 : decode cX12_member 61 = .ok (.bipush (-2), 2) := by decide +kernel
theorem dX12_member_63 : decode cX12_member 63 = .ok (.ireturn, 1) := by decide +kernel
theorem dX12_member_64 : decode cX12_member 64 = .ok (.iinc 4 1, 3) := by decide +kernel
theorem dX12_member_67 : decode cX12_member 67 = .ok (.goto (-33), 3) := by decide +kernel
theorem dX12_member_70 : decode cX12_member 70 = .ok (.aload_n 0, 1) := by decide +kernel
theorem dX12_member_71 : decode cX12_member 71 = .ok (.getfield 143, 3) := by decide +kernel
theorem dX12_member_74 : decode cX12_member 74 = .ok (.bipush 8, 2) := by decide +kernel
theorem dX12_member_76 : decode cX12_member 76 = .ok (.iload_n 3, 1) := by decide +kernel
theorem dX12_member_77 : decode cX12_member 77 = .ok (.imul, 1) := by decide +kernel
theorem dX12_member_78 : decode cX12_member 78 = .ok (.aload_n 0, 1) := by decide +kernel
theorem dX12_member_79 : decode cX12_member 79 = .ok (.getfield 146, 3) := by decide +kernel
theorem dX12_member_82 : decode cX12_member 82 = .ok (.iload_n 3, 1) := by decide +kernel
theorem dX12_member_83 : decode cX12_member 83 = .ok (.dup2, 1) := by decide +kernel
theorem dX12_member_84 : decode cX12_member 84 = .ok (.iaload, 1) := by decide +kernel
theorem dX12_member_85 : decode cX12_member 85 = .ok (.dup_x2, 1) := by decide +kernel
theorem dX12_member_86 : decode cX12_member 86 = .ok (.iconst 1, 1) := by decide +kernel
theorem dX12_member_87 : decode cX12_member 87 = .ok (.iadd, 1) := by decide +kernel
theorem dX12_member_88 : decode cX12_member 88 = .ok (.iastore, 1) := by decide +kernel
theorem dX12_member_89 : decode cX12_member 89 = .ok (.iadd, 1) := by decide +kernel
theorem dX12_member_90 : decode cX12_member 90 = .ok (.iload_n 2, 1) := by decide +kernel
theorem dX12_member_91 : decode cX12_member 91 = .ok (.iastore, 1) := by decide +kernel
theorem dX12_member_92 : decode cX12_member 92 = .ok (.aload_n 0, 1) := by decide +kernel
theorem dX12_member_93 : decode cX12_member 93 = .ok (.getfield 146, 3) := by decide +kernel
theorem dX12_member_96 : decode cX12_member 96 = .ok (.iload_n 3, 1) := by decide +kernel
theorem dX12_member_97 : decode cX12_member 97 = .ok (.iaload, 1) := by decide +kernel
theorem dX12_member_98 : decode cX12_member 98 = .ok (.ireturn, 1) := by decide +kernel
theorem dX12_waiting_0 : decode cX12_waiting 0 = .ok (.iload_n 1, 1) := by decide +kernel
theorem dX12_waiting_1 : decode cX12_waiting 1 = .ok (.i2l, 1) := by decide +kernel
theorem dX12_waiting_2 : decode cX12_waiting 2 = .ok (.lconst 0, 1) := by decide +kernel
theorem dX12_waiting_3 : decode cX12_waiting 3 = .ok (.lconst 1, 1) := by decide +kernel
theorem dX12_waiting_4 : decode cX12_waiting 4 = .ok (.invokestatic 268, 3) := by decide +kernel
theorem dX12_waiting_7 : decode cX12_waiting 7 = .ok (.ifCond .eq 27, 3) := by decide +kernel
theorem dX12_waiting_10 : decode cX12_waiting 10 = .ok (.iload_n 2, 1) := by decide +kernel
theorem dX12_waiting_11 : decode cX12_waiting 11 = .ok (.i2l, 1) := by decide +kernel
theorem dX12_waiting_12 : decode cX12_waiting 12 = .ok (.lconst 0, 1) := by decide +kernel
theorem dX12_waiting_13 : decode cX12_waiting 13 = .ok (.ldc2_w 281, 3) := by decide +kernel
theorem dX12_waiting_16 : decode cX12_waiting 16 = .ok (.invokestatic 268, 3) := by decide +kernel
theorem dX12_waiting_19 : decode cX12_waiting 19 = .ok (.ifCond .eq 15, 3) := by decide +kernel
theorem dX12_waiting_22 : decode cX12_waiting 22 = .ok (.iload_n 3, 1) := by decide +kernel
theorem dX12_waiting_23 : decode cX12_waiting 23 = .ok (.i2l, 1) := by decide +kernel
theorem dX12_waiting_24 : decode cX12_waiting 24 = .ok (.lconst 0, 1) := by decide +kernel
theorem dX12_waiting_25 : decode cX12_waiting 25 = .ok (.ldc2_w 405, 3) := by decide +kernel
theorem dX12_waiting_28 : decode cX12_waiting 28 = .ok (.invokestatic 268, 3) := by decide +kernel
theorem dX12_waiting_31 : decode cX12_waiting 31 = .ok (.ifCond .ne 6, 3) := by decide +kernel
theorem dX12_waiting_34 : decode cX12_waiting 34 = .ok (.bipush (-2), 2) := by decide +kernel
theorem dX12_waiting_36 : decode cX12_waiting 36 = .ok (.ireturn, 1) := by decide +kernel
theorem dX12_waiting_37 : decode cX12_waiting 37 = .ok (.iconst 3, 1) := by decide +kernel
theorem dX12_waiting_38 : decode cX12_waiting 38 = .ok (.iload_n 1, 1) := by decide +kernel
theorem dX12_waiting_39 : decode cX12_waiting 39 = .ok (.imul, 1) := by decide +kernel
theorem dX12_waiting_40 : decode cX12_waiting 40 = .ok (.iload_n 2, 1) := by decide +kernel
theorem dX12_waiting_41 : decode cX12_waiting 41 = .ok (.iadd, 1) := by decide +kernel
theorem dX12_waiting_42 : decode cX12_waiting 42 = .ok (.istore 4, 2) := by decide +kernel
theorem dX12_waiting_44 : decode cX12_waiting 44 = .ok (.aload_n 0, 1) := by decide +kernel
theorem dX12_waiting_45 : decode cX12_waiting 45 = .ok (.getfield 149, 3) := by decide +kernel
theorem dX12_waiting_48 : decode cX12_waiting 48 = .ok (.iload 4, 2) := by decide +kernel
theorem dX12_waiting_50 : decode cX12_waiting 50 = .ok (.iaload, 1) := by decide +kernel
theorem dX12_waiting_51 : decode cX12_waiting 51 = .ok (.istore 5, 2) := by decide +kernel
theorem dX12_waiting_53 : decode cX12_waiting 53 = .ok (.aload_n 0, 1) := by decide +kernel
theorem dX12_waiting_54 : decode cX12_waiting 54 = .ok (.getfield 149, 3) := by decide +kernel
theorem dX12_waiting_57 : decode cX12_waiting 57 = .ok (.iload 4, 2) := by decide +kernel
theorem dX12_waiting_59 : decode cX12_waiting 59 = .ok (.iload_n 3, 1) := by decide +kernel
theorem dX12_waiting_60 : decode cX12_waiting 60 = .ok (.iastore, 1) := by decide +kernel
theorem dX12_waiting_61 : decode cX12_waiting 61 = .ok (.iload 5, 2) := by decide +kernel
theorem dX12_waiting_63 : decode cX12_waiting 63 = .ok (.ireturn, 1) := by decide +kernel
theorem dX12_ready_0 : decode cX12_ready 0 = .ok (.iconst (-1), 1) := by decide +kernel
theorem dX12_ready_1 : decode cX12_ready 1 = .ok (.istore_n 2, 1) := by decide +kernel
theorem dX12_ready_2 : decode cX12_ready 2 = .ok (.iconst 0, 1) := by decide +kernel
theorem dX12_ready_3 : decode cX12_ready 3 = .ok (.istore_n 3, 1) := by decide +kernel
theorem dX12_ready_4 : decode cX12_ready 4 = .ok (.iload_n 3, 1) := by decide +kernel
theorem dX12_ready_5 : decode cX12_ready 5 = .ok (.aload_n 0, 1) := by decide +kernel
theorem dX12_ready_6 : decode cX12_ready 6 = .ok (.getfield 146, 3) := by decide +kernel
theorem dX12_ready_9 : decode cX12_ready 9 = .ok (.iload_n 1, 1) := by decide +kernel
theorem dX12_ready_10 : decode cX12_ready 10 = .ok (.iaload, 1) := by decide +kernel
theorem dX12_ready_11 : decode cX12_ready 11 = .ok (.if_icmp .ge 65, 3) := by decide +kernel
theorem dX12_ready_14 : decode cX12_ready 14 = .ok (.aload_n 0, 1) := by decide +kernel
theorem dX12_ready_15 : decode cX12_ready 15 = .ok (.getfield 143, 3) := by decide +kernel
theorem dX12_ready_18 : decode cX12_ready 18 = .ok (.bipush 8, 2) := by decide +kernel
theorem dX12_ready_20 : decode cX12_ready 20 = .ok (.iload_n 1, 1) := by decide +kernel
theorem dX12_ready_21 : decode cX12_ready 21 = .ok (.imul, 1) := by decide +kernel
theorem dX12_ready_22 : decode cX12_ready 22 = .ok (.iload_n 3, 1) := by decide +kernel
theorem dX12_ready_23 : decode cX12_ready 23 = .ok (.iadd, 1) := by decide +kernel
theorem dX12_ready_24 : decode cX12_ready 24 = .ok (.iaload, 1) := by decide +kernel
theorem dX12_ready_25 : decode cX12_ready 25 = .ok (.istore 4, 2) := by decide +kernel
theorem dX12_ready_27 : decode cX12_ready 27 = .ok (.aload_n 0, 1) := by decide +kernel
theorem dX12_ready_28 : decode cX12_ready 28 = .ok (.iload 4, 2) := by decide +kernel
theorem dX12_ready_30 : decode cX12_ready 30 = .ok (.invokevirtual 370, 3) := by decide +kernel
theorem dX12_ready_33 : decode cX12_ready 33 = .ok (.ifCond .eq 37, 3) := by decide +kernel
theorem dX12_ready_36 : decode cX12_ready 36 = .ok (.aload_n 0, 1) := by decide +kernel
theorem dX12_ready_37 : decode cX12_ready 37 = .ok (.getfield 71, 3) := by decide +kernel
theorem dX12_ready_40 : decode cX12_ready 40 = .ok (.iload 4, 2) := by decide +kernel
theorem dX12_ready_42 : decode cX12_ready 42 = .ok (.baload, 1) := by decide +kernel
theorem dX12_ready_43 : decode cX12_ready 43 = .ok (.ifCond .ne 27, 3) := by decide +kernel
theorem dX12_ready_46 : decode cX12_ready 46 = .ok (.iload_n 2, 1) := by decide +kernel
theorem dX12_ready_47 : decode cX12_ready 47 = .ok (.iconst (-1), 1) := by decide +kernel
theorem dX12_ready_48 : decode cX12_ready 48 = .ok (.if_icmp .eq 19, 3) := by decide +kernel
theorem dX12_ready_51 : decode cX12_ready 51 = .ok (.aload_n 0, 1) := by decide +kernel
theorem dX12_ready_52 : decode cX12_ready 52 = .ok (.getfield 74, 3) := by decide +kernel
theorem dX12_ready_55 : decode cX12_ready 55 = .ok (.iload 4, 2) := by decide +kernel
theorem dX12_ready_57 : decode cX12_ready 57 = .ok (.iaload, 1) := by decide +kernel
theorem dX12_ready_58 : decode cX12_ready 58 = .ok (.aload_n 0, 1) := by decide +kernel
theorem dX12_ready_59 : decode cX12_ready 59 = .ok (.getfield 74, 3) := by decide +kernel
theorem dX12_ready_62 : decode cX12_ready 62 = .ok (.iload_n 2, 1) := by decide +kernel
theorem dX12_ready_63 : decode cX12_ready 63 = .ok (.iaload, 1) := by decide +kernel
theorem dX12_ready_64 : decode cX12_ready 64 = .ok (.if_icmp .ge 6, 3) := by decide +kernel
theorem dX12_ready_67 : decode cX12_ready 67 = .ok (.iload 4, 2) := by decide +kernel
theorem dX12_ready_69 : decode cX12_ready 69 = .ok (.istore_n 2, 1) := by decide +kernel
theorem dX12_ready_70 : decode cX12_ready 70 = .ok (.iinc 3 1, 3) := by decide +kernel
theorem dX12_ready_73 : decode cX12_ready 73 = .ok (.goto (-69), 3) := by decide +kernel
theorem dX12_ready_76 : decode cX12_ready 76 = .ok (.iload_n 2, 1) := by decide +kernel
theorem dX12_ready_77 : decode cX12_ready 77 = .ok (.ireturn, 1) := by decide +kernel
theorem dX12_toGroup_0 : decode cX12_toGroup 0 = .ok (.iconst 3, 1) := by decide +kernel
theorem dX12_toGroup_1 : decode cX12_toGroup 1 = .ok (.aload_n 0, 1) := by decide +kernel
theorem dX12_toGroup_2 : decode cX12_toGroup 2 = .ok (.getfield 101, 3) := by decide +kernel
theorem dX12_toGroup_5 : decode cX12_toGroup 5 = .ok (.iload_n 1, 1) := by decide +kernel
theorem dX12_toGroup_6 : decode cX12_toGroup 6 = .ok (.iaload, 1) := by decide +kernel
theorem dX12_toGroup_7 : decode cX12_toGroup 7 = .ok (.imul, 1) := by decide +kernel
theorem dX12_toGroup_8 : decode cX12_toGroup 8 = .ok (.iload_n 2, 1) := by decide +kernel
theorem dX12_toGroup_9 : decode cX12_toGroup 9 = .ok (.iadd, 1) := by decide +kernel
theorem dX12_toGroup_10 : decode cX12_toGroup 10 = .ok (.istore_n 3, 1) := by decide +kernel
theorem dX12_toGroup_11 : decode cX12_toGroup 11 = .ok (.aload_n 0, 1) := by decide +kernel
theorem dX12_toGroup_12 : decode cX12_toGroup 12 = .ok (.getfield 155, 3) := by decide +kernel
theorem dX12_toGroup_15 : decode cX12_toGroup 15 = .ok (.iload_n 3, 1) := by decide +kernel
theorem dX12_toGroup_16 : decode cX12_toGroup 16 = .ok (.iaload, 1) := by decide +kernel
theorem dX12_toGroup_17 : decode cX12_toGroup 17 = .ok (.ifCond .ne 11, 3) := by decide +kernel
theorem dX12_toGroup_20 : decode cX12_toGroup 20 = .ok (.aload_n 0, 1) := by decide +kernel
theorem dX12_toGroup_21 : decode cX12_toGroup 21 = .ok (.iload_n 3, 1) := by decide +kernel
theorem dX12_toGroup_22 : decode cX12_toGroup 22 = .ok (.invokevirtual 407, 3) := by decide +kernel
theorem dX12_toGroup_25 : decode cX12_toGroup 25 = .ok (.goto 4, 3) := by decide +kernel
theorem dX12_toGroup_28 : decode cX12_toGroup 28 = .ok (.iconst (-1), 1) := by decide +kernel
theorem dX12_toGroup_29 : decode cX12_toGroup 29 = .ok (.istore 4, 2) := by decide +kernel
theorem dX12_toGroup_31 : decode cX12_toGroup 31 = .ok (.iload 4, 2) := by decide +kernel
theorem dX12_toGroup_33 : decode cX12_toGroup 33 = .ok (.iconst (-1), 1) := by decide +kernel
theorem dX12_toGroup_34 : decode cX12_toGroup 34 = .ok (.if_icmp .eq 22, 3) := by decide +kernel
theorem dX12_toGroup_37 : decode cX12_toGroup 37 = .ok (.aload_n 0, 1) := by decide +kernel
theorem dX12_toGroup_38 : decode cX12_toGroup 38 = .ok (.getfield 62, 3) := by decide +kernel
theorem dX12_toGroup_41 : decode cX12_toGroup 41 = .ok (.iload 4, 2) := by decide +kernel
theorem dX12_toGroup_43 : decode cX12_toGroup 43 = .ok (.iload_n 1, 1) := by decide +kernel
theorem dX12_toGroup_44 : decode cX12_toGroup 44 = .ok (.iastore, 1) := by decide +kernel
theorem dX12_toGroup_45 : decode cX12_toGroup 45 = .ok (.aload_n 0, 1) := by decide +kernel
theorem dX12_toGroup_46 : decode cX12_toGroup 46 = .ok (.iload_n 1, 1) := by decide +kernel
theorem dX12_toGroup_47 : decode cX12_toGroup 47 = .ok (.iload 4, 2) := by decide +kernel
theorem dX12_toGroup_49 : decode cX12_toGroup 49 = .ok (.iload_n 2, 1) := by decide +kernel
theorem dX12_toGroup_50 : decode cX12_toGroup 50 = .ok (.invokevirtual 373, 3) := by decide +kernel
theorem dX12_toGroup_53 : decode cX12_toGroup 53 = .ok (.goto 72, 3) := by decide +kernel
theorem dX12_toGroup_56 : decode cX12_toGroup 56 = .ok (.aload_n 0, 1) := by decide +kernel
theorem dX12_toGroup_57 : decode cX12_toGroup 57 = .ok (.getfield 155, 3) := by decide +kernel
theorem dX12_toGroup_60 : decode cX12_toGroup 60 = .ok (.iload_n 3, 1) := by decide +kernel
theorem dX12_toGroup_61 : decode cX12_toGroup 61 = .ok (.iaload, 1) := by decide +kernel
theorem dX12_toGroup_62 : decode cX12_toGroup 62 = .ok (.aload_n 0, 1) := by decide +kernel
theorem dX12_toGroup_63 : decode cX12_toGroup 63 = .ok (.getfield 149, 3) := by decide +kernel
theorem dX12_toGroup_66 : decode cX12_toGroup 66 = .ok (.iload_n 3, 1) := by decide +kernel
theorem dX12_toGroup_67 : decode cX12_toGroup 67 = .ok (.iaload, 1) := by decide +kernel
theorem dX12_toGroup_68 : decode cX12_toGroup 68 = .ok (.if_icmp .ge 50, 3) := by decide +kernel
theorem dX12_toGroup_71 : decode cX12_toGroup 71 = .ok (.aload_n 0, 1) := by decide +kernel
theorem dX12_toGroup_72 : decode cX12_toGroup 72 = .ok (.getfield 152, 3) := by decide +kernel
theorem dX12_toGroup_75 : decode cX12_toGroup 75 = .ok (.bipush 80, 2) := by decide +kernel
theorem dX12_toGroup_77 : decode cX12_toGroup 77 = .ok (.iload_n 3, 1) := by decide +kernel
theorem dX12_toGroup_78 : decode cX12_toGroup 78 = .ok (.imul, 1) := by decide +kernel
theorem dX12_toGroup_79 : decode cX12_toGroup 79 = .ok (.aload_n 0, 1) := by decide +kernel
theorem dX12_toGroup_80 : decode cX12_toGroup 80 = .ok (.getfield 155, 3) := by decide +kernel
theorem dX12_toGroup_83 : decode cX12_toGroup 83 = .ok (.iload_n 3, 1) := by decide +kernel
theorem dX12_toGroup_84 : decode cX12_toGroup 84 = .ok (.dup2, 1) := by decide +kernel
theorem dX12_toGroup_85 : decode cX12_toGroup 85 = .ok (.iaload, 1) := by decide +kernel
theorem dX12_toGroup_86 : decode cX12_toGroup 86 = .ok (.dup_x2, 1) := by decide +kernel
theorem dX12_toGroup_87 : decode cX12_toGroup 87 = .ok (.iconst 1, 1) := by decide +kernel
theorem dX12_toGroup_88 : decode cX12_toGroup 88 = .ok (.iadd, 1) := by decide +kernel
theorem dX12_toGroup_89 : decode cX12_toGroup 89 = .ok (.iastore, 1) := by decide +kernel
theorem dX12_toGroup_90 : decode cX12_toGroup 90 = .ok (.iadd, 1) := by decide +kernel
theorem dX12_toGroup_91 : decode cX12_toGroup 91 = .ok (.iload_n 1, 1) := by decide +kernel
theorem dX12_toGroup_92 : decode cX12_toGroup 92 = .ok (.iastore, 1) := by decide +kernel
theorem dX12_toGroup_93 : decode cX12_toGroup 93 = .ok (.aload_n 0, 1) := by decide +kernel
theorem dX12_toGroup_94 : decode cX12_toGroup 94 = .ok (.getfield 107, 3) := by decide +kernel
theorem dX12_toGroup_97 : decode cX12_toGroup 97 = .ok (.iload_n 1, 1) := by decide +kernel
theorem dX12_toGroup_98 : decode cX12_toGroup 98 = .ok (.sipush 300, 3) := by decide +kernel
theorem dX12_toGroup_101 : decode cX12_toGroup 101 = .ok (.iload_n 2, 1) := by decide +kernel
theorem dX12_toGroup_102 : decode cX12_toGroup 102 = .ok (.iadd, 1) := by decide +kernel
theorem dX12_toGroup_103 : decode cX12_toGroup 103 = .ok (.iastore, 1) := by decide +kernel
theorem dX12_toGroup_104 : decode cX12_toGroup 104 = .ok (.aload_n 0, 1) := by decide +kernel
theorem dX12_toGroup_105 : decode cX12_toGroup 105 = .ok (.iload_n 1, 1) := by decide +kernel
theorem dX12_toGroup_106 : decode cX12_toGroup 106 = .ok (.iconst 4, 1) := by decide +kernel
theorem dX12_toGroup_107 : decode cX12_toGroup 107 = .ok (.invokevirtual 361, 3) := by decide +kernel
theorem dX12_toGroup_110 : decode cX12_toGroup 110 = .ok (.aload_n 0, 1) := by decide +kernel
theorem dX12_toGroup_111 : decode cX12_toGroup 111 = .ok (.iload_n 1, 1) := by decide +kernel
theorem dX12_toGroup_112 : decode cX12_toGroup 112 = .ok (.invokevirtual 364, 3) := by decide +kernel
theorem dX12_toGroup_115 : decode cX12_toGroup 115 = .ok (.goto 10, 3) := by decide +kernel
theorem dX12_toGroup_118 : decode cX12_toGroup 118 = .ok (.aload_n 0, 1) := by decide +kernel
theorem dX12_toGroup_119 : decode cX12_toGroup 119 = .ok (.iload_n 1, 1) := by decide +kernel
theorem dX12_toGroup_120 : decode cX12_toGroup 120 = .ok (.iconst 2, 1) := by decide +kernel
theorem dX12_toGroup_121 : decode cX12_toGroup 121 = .ok (.iconst (-1), 1) := by decide +kernel
theorem dX12_toGroup_122 : decode cX12_toGroup 122 = .ok (.invokevirtual 323, 3) := by decide +kernel
theorem dX12_toGroup_125 : decode cX12_toGroup 125 = .ok (.return_, 1) := by decide +kernel
theorem dX12_leaves_0 : decode cX12_leaves 0 = .ok (.iconst 3, 1) := by decide +kernel
theorem dX12_leaves_1 : decode cX12_leaves 1 = .ok (.aload_n 0, 1) := by decide +kernel
theorem dX12_leaves_2 : decode cX12_leaves 2 = .ok (.getfield 101, 3) := by decide +kernel
theorem dX12_leaves_5 : decode cX12_leaves 5 = .ok (.iload_n 1, 1) := by decide +kernel
theorem dX12_leaves_6 : decode cX12_leaves 6 = .ok (.iaload, 1) := by decide +kernel
theorem dX12_leaves_7 : decode cX12_leaves 7 = .ok (.imul, 1) := by decide +kernel
theorem dX12_leaves_8 : decode cX12_leaves 8 = .ok (.aload_n 0, 1) := by decide +kernel
theorem dX12_leaves_9 : decode cX12_leaves 9 = .ok (.getfield 107, 3) := by decide +kernel
theorem dX12_leaves_12 : decode cX12_leaves 12 = .ok (.iload_n 1, 1) := by decide +kernel
theorem dX12_leaves_13 : decode cX12_leaves 13 = .ok (.iaload, 1) := by decide +kernel
theorem dX12_leaves_14 : decode cX12_leaves 14 = .ok (.iadd, 1) := by decide +kernel
theorem dX12_leaves_15 : decode cX12_leaves 15 = .ok (.sipush 300, 3) := by decide +kernel
theorem dX12_leaves_18 : decode cX12_leaves 18 = .ok (.isub, 1) := by decide +kernel
theorem dX12_leaves_19 : decode cX12_leaves 19 = .ok (.istore_n 2, 1) := by decide +kernel
theorem dX12_leaves_20 : decode cX12_leaves 20 = .ok (.iconst 0, 1) := by decide +kernel
theorem dX12_leaves_21 : decode cX12_leaves 21 = .ok (.istore_n 3, 1) := by decide +kernel
theorem dX12_leaves_22 : decode cX12_leaves 22 = .ok (.iconst 0, 1) := by decide +kernel
theorem dX12_leaves_23 : decode cX12_leaves 23 = .ok (.istore 4, 2) := by decide +kernel
theorem dX12_leaves_25 : decode cX12_leaves 25 = .ok (.iload 4, 2) := by decide +kernel
theorem dX12_leaves_27 : decode cX12_leaves 27 = .ok (.aload_n 0, 1) := by decide +kernel
theorem dX12_leaves_28 : decode cX12_leaves 28 = .ok (.getfield 155, 3) := by decide +kernel
theorem dX12_leaves_31 : decode cX12_leaves 31 = .ok (.iload_n 2, 1) := by decide +kernel
theorem dX12_leaves_32 : decode cX12_leaves 32 = .ok (.iaload, 1) := by decide +kernel
theorem dX12_leaves_33 : decode cX12_leaves 33 = .ok (.if_icmp .ge 51, 3) := by decide +kernel
theorem dX12_leaves_36 : decode cX12_leaves 36 = .ok (.aload_n 0, 1) := by decide +kernel
theorem dX12_leaves_37 : decode cX12_leaves 37 = .ok (.getfield 152, 3) := by decide +kernel
theorem dX12_leaves_40 : decode cX12_leaves 40 = .ok (.bipush 80, 2) := by decide +kernel
theorem dX12_leaves_42 : decode cX12_leaves 42 = .ok (.iload_n 2, 1) := by decide +kernel
theorem dX12_leaves_43 : decode cX12_leaves 43 = .ok (.imul, 1) := by decide +kernel
theorem dX12_leaves_44 : decode cX12_leaves 44 = .ok (.iload 4, 2) := by decide +kernel
theorem dX12_leaves_46 : decode cX12_leaves 46 = .ok (.iadd, 1) := by decide +kernel
theorem dX12_leaves_47 : decode cX12_leaves 47 = .ok (.iaload, 1) := by decide +kernel
theorem dX12_leaves_48 : decode cX12_leaves 48 = .ok (.iload_n 1, 1) := by decide +kernel
theorem dX12_leaves_49 : decode cX12_leaves 49 = .ok (.if_icmp .eq 29, 3) := by decide +kernel
theorem dX12_leaves_52 : decode cX12_leaves 52 = .ok (.aload_n 0, 1) := by decide +kernel
theorem dX12_leaves_53 : decode cX12_leaves 53 = .ok (.getfield 152, 3) := by decide +kernel
theorem dX12_leaves_56 : decode cX12_leaves 56 = .ok (.bipush 80, 2) := by decide +kernel
theorem dX12_leaves_58 : decode cX12_leaves 58 = .ok (.iload_n 2, 1) := by decide +kernel
theorem dX12_leaves_59 : decode cX12_leaves 59 = .ok (.imul, 1) := by decide +kernel
theorem dX12_leaves_60 : decode cX12_leaves 60 = .ok (.iload_n 3, 1) := by decide +kernel
theorem dX12_leaves_61 : decode cX12_leaves 61 = .ok (.iinc 3 1, 3) := by decide +kernel
theorem dX12_leaves_64 : decode cX12_leaves 64 = .ok (.iadd, 1) := by decide +kernel
theorem dX12_leaves_65 : decode cX12_leaves 65 = .ok (.aload_n 0, 1) := by decide +kernel
theorem dX12_leaves_66 : decode cX12_leaves 66 = .ok (.getfield 152, 3) := by decide +kernel
theorem dX12_leaves_69 : decode cX12_leaves 69 = .ok (.bipush 80, 2) := by decide +kernel
theorem dX12_leaves_71 : decode cX12_leaves 71 = .ok (.iload_n 2, 1) := by decide +kernel
theorem dX12_leaves_72 : decode cX12_leaves 72 = .ok (.imul, 1) := by decide +kernel
theorem dX12_leaves_73 : decode cX12_leaves 73 = .ok (.iload 4, 2) := by decide +kernel
theorem dX12_leaves_75 : decode cX12_leaves 75 = .ok (.iadd, 1) := by decide +kernel
theorem dX12_leaves_76 : decode cX12_leaves 76 = .ok (.iaload, 1) := by decide +kernel
theorem dX12_leaves_77 : decode cX12_leaves 77 = .ok (.iastore, 1) := by decide +kernel
theorem dX12_leaves_78 : decode cX12_leaves 78 = .ok (.iinc 4 1, 3) := by decide +kernel
theorem dX12_leaves_81 : decode cX12_leaves 81 = .ok (.goto (-56), 3) := by decide +kernel
theorem dX12_leaves_84 : decode cX12_leaves 84 = .ok (.aload_n 0, 1) := by decide +kernel
theorem dX12_leaves_85 : decode cX12_leaves 85 = .ok (.getfield 155, 3) := by decide +kernel
theorem dX12_leaves_88 : decode cX12_leaves 88 = .ok (.iload_n 2, 1) := by decide +kernel
theorem dX12_leaves_89 : decode cX12_leaves 89 = .ok (.iload_n 3, 1) := by decide +kernel
theorem dX12_leaves_90 : decode cX12_leaves 90 = .ok (.iastore, 1) := by decide +kernel
theorem dX12_leaves_91 : decode cX12_leaves 91 = .ok (.return_, 1) := by decide +kernel
theorem dX12_serves_0 : decode cX12_serves 0 = .ok (.aload_n 0, 1) := by decide +kernel
theorem dX12_serves_1 : decode cX12_serves 1 = .ok (.iload_n 1, 1) := by decide +kernel
theorem dX12_serves_2 : decode cX12_serves 2 = .ok (.invokevirtual 407, 3) := by decide +kernel
theorem dX12_serves_5 : decode cX12_serves 5 = .ok (.istore_n 2, 1) := by decide +kernel
theorem dX12_serves_6 : decode cX12_serves 6 = .ok (.aload_n 0, 1) := by decide +kernel
theorem dX12_serves_7 : decode cX12_serves 7 = .ok (.getfield 155, 3) := by decide +kernel
theorem dX12_serves_10 : decode cX12_serves 10 = .ok (.iload_n 1, 1) := by decide +kernel
theorem dX12_serves_11 : decode cX12_serves 11 = .ok (.iaload, 1) := by decide +kernel
theorem dX12_serves_12 : decode cX12_serves 12 = .ok (.ifCond .le 48, 3) := by decide +kernel
theorem dX12_serves_15 : decode cX12_serves 15 = .ok (.iload_n 2, 1) := by decide +kernel
theorem dX12_serves_16 : decode cX12_serves 16 = .ok (.iconst (-1), 1) := by decide +kernel
theorem dX12_serves_17 : decode cX12_serves 17 = .ok (.if_icmp .eq 43, 3) := by decide +kernel
theorem dX12_serves_20 : decode cX12_serves 20 = .ok (.aload_n 0, 1) := by decide +kernel
theorem dX12_serves_21 : decode cX12_serves 21 = .ok (.getfield 152, 3) := by decide +kernel
theorem dX12_serves_24 : decode cX12_serves 24 = .ok (.bipush 80, 2) := by decide +kernel
theorem dX12_serves_26 : decode cX12_serves 26 = .ok (.iload_n 1, 1) := by decide +kernel
theorem dX12_serves_27 : decode cX12_serves 27 = .ok (.imul, 1) := by decide +kernel
theorem dX12_serves_28 : decode cX12_serves 28 = .ok (.iaload, 1) := by decide +kernel
theorem dX12_serves_29 : decode cX12_serves 29 = .ok (.istore_n 3, 1) := by decide +kernel
theorem dX12_serves_30 : decode cX12_serves 30 = .ok (.aload_n 0, 1) := by decide +kernel
theorem dX12_serves_31 : decode cX12_serves 31 = .ok (.iload_n 3, 1) := by decide +kernel
theorem dX12_serves_32 : decode cX12_serves 32 = .ok (.invokevirtual 390, 3) := by decide +kernel
theorem dX12_serves_35 : decode cX12_serves 35 = .ok (.aload_n 0, 1) := by decide +kernel
theorem dX12_serves_36 : decode cX12_serves 36 = .ok (.getfield 62, 3) := by decide +kernel
theorem dX12_serves_39 : decode cX12_serves 39 = .ok (.iload_n 2, 1) := by decide +kernel
theorem dX12_serves_40 : decode cX12_serves 40 = .ok (.iload_n 3, 1) := by decide +kernel
theorem dX12_serves_41 : decode cX12_serves 41 = .ok (.iastore, 1) := by decide +kernel
theorem dX12_serves_42 : decode cX12_serves 42 = .ok (.aload_n 0, 1) := by decide +kernel
theorem dX12_serves_43 : decode cX12_serves 43 = .ok (.iload_n 3, 1) := by decide +kernel
theorem dX12_serves_44 : decode cX12_serves 44 = .ok (.iload_n 2, 1) := by decide +kernel
theorem dX12_serves_45 : decode cX12_serves 45 = .ok (.iload_n 1, 1) := by decide +kernel
theorem dX12_serves_46 : decode cX12_serves 46 = .ok (.iconst 3, 1) := by decide +kernel
theorem dX12_serves_47 : decode cX12_serves 47 = .ok (.irem, 1) := by decide +kernel
theorem dX12_serves_48 : decode cX12_serves 48 = .ok (.invokevirtual 373, 3) := by decide +kernel
theorem dX12_serves_51 : decode cX12_serves 51 = .ok (.aload_n 0, 1) := by decide +kernel
theorem dX12_serves_52 : decode cX12_serves 52 = .ok (.iload_n 1, 1) := by decide +kernel
theorem dX12_serves_53 : decode cX12_serves 53 = .ok (.invokevirtual 407, 3) := by decide +kernel
theorem dX12_serves_56 : decode cX12_serves 56 = .ok (.istore_n 2, 1) := by decide +kernel
theorem dX12_serves_57 : decode cX12_serves 57 = .ok (.goto (-51), 3) := by decide +kernel
theorem dX12_serves_60 : decode cX12_serves 60 = .ok (.return_, 1) := by decide +kernel
theorem dX12_begins_0 : decode cX12_begins 0 = .ok (.aload_n 0, 1) := by decide +kernel
theorem dX12_begins_1 : decode cX12_begins 1 = .ok (.getfield 164, 3) := by decide +kernel
theorem dX12_begins_4 : decode cX12_begins 4 = .ok (.iconst 0, 1) := by decide +kernel
theorem dX12_begins_5 : decode cX12_begins 5 = .ok (.iload_n 1, 1) := by decide +kernel
theorem dX12_begins_6 : decode cX12_begins 6 = .ok (.iastore, 1) := by decide +kernel
theorem dX12_begins_7 : decode cX12_begins 7 = .ok (.aload_n 0, 1) := by decide +kernel
theorem dX12_begins_8 : decode cX12_begins 8 = .ok (.getfield 164, 3) := by decide +kernel
theorem dX12_begins_11 : decode cX12_begins 11 = .ok (.iconst 1, 1) := by decide +kernel
theorem dX12_begins_12 : decode cX12_begins 12 = .ok (.iload_n 2, 1) := by decide +kernel
theorem dX12_begins_13 : decode cX12_begins 13 = .ok (.iastore, 1) := by decide +kernel
theorem dX12_begins_14 : decode cX12_begins 14 = .ok (.aload_n 0, 1) := by decide +kernel
theorem dX12_begins_15 : decode cX12_begins 15 = .ok (.iconst 2, 1) := by decide +kernel
theorem dX12_begins_16 : decode cX12_begins 16 = .ok (.putfield 355, 3) := by decide +kernel
theorem dX12_begins_19 : decode cX12_begins 19 = .ok (.return_, 1) := by decide +kernel
theorem dX12_goes_0 : decode cX12_goes 0 = .ok (.aload_n 0, 1) := by decide +kernel
theorem dX12_goes_1 : decode cX12_goes 1 = .ok (.getfield 173, 3) := by decide +kernel
theorem dX12_goes_4 : decode cX12_goes 4 = .ok (.iload_n 1, 1) := by decide +kernel
theorem dX12_goes_5 : decode cX12_goes 5 = .ok (.iaload, 1) := by decide +kernel
theorem dX12_goes_6 : decode cX12_goes 6 = .ok (.aload_n 0, 1) := by decide +kernel
theorem dX12_goes_7 : decode cX12_goes 7 = .ok (.getfield 176, 3) := by decide +kernel
theorem dX12_goes_10 : decode cX12_goes 10 = .ok (.iload_n 1, 1) := by decide +kernel
theorem dX12_goes_11 : decode cX12_goes 11 = .ok (.iaload, 1) := by decide +kernel
theorem dX12_goes_12 : decode cX12_goes 12 = .ok (.isub, 1) := by decide +kernel
theorem dX12_goes_13 : decode cX12_goes 13 = .ok (.sipush 200, 3) := by decide +kernel
theorem dX12_goes_16 : decode cX12_goes 16 = .ok (.if_icmp .lt 4, 3) := by decide +kernel
theorem dX12_goes_19 : decode cX12_goes 19 = .ok (.return_, 1) := by decide +kernel
theorem dX12_goes_20 : decode cX12_goes 20 = .ok (.sipush 256, 3) := by decide +kernel
theorem dX12_goes_23 : decode cX12_goes 23 = .ok (.iload_n 1, 1) := by decide +kernel
theorem dX12_goes_24 : decode cX12_goes 24 = .ok (.imul, 1) := by decide +kernel
theorem dX12_goes_25 : decode cX12_goes 25 = .ok (.aload_n 0, 1) := by decide +kernel
theorem dX12_goes_26 : decode cX12_goes 26 = .ok (.getfield 173, 3) := by decide +kernel
theorem dX12_goes_29 : decode cX12_goes 29 = .ok (.iload_n 1, 1) := by decide +kernel
theorem dX12_goes_30 : decode cX12_goes 30 = .ok (.iaload, 1) := by decide +kernel
theorem dX12_goes_31 : decode cX12_goes 31 = .ok (.sipush 256, 3) := by decide +kernel
theorem dX12_goes_34 : decode cX12_goes 34 = .ok (.irem, 1) := by decide +kernel
theorem dX12_goes_35 : decode cX12_goes 35 = .ok (.iadd, 1) := by decide +kernel
theorem dX12_goes_36 : decode cX12_goes 36 = .ok (.istore_n 2, 1) := by decide +kernel
theorem dX12_goes_37 : decode cX12_goes 37 = .ok (.iconst 0, 1) := by decide +kernel
theorem dX12_goes_38 : decode cX12_goes 38 = .ok (.istore_n 3, 1) := by decide +kernel
theorem dX12_goes_39 : decode cX12_goes 39 = .ok (.iload_n 3, 1) := by decide +kernel
theorem dX12_goes_40 : decode cX12_goes 40 = .ok (.aload_n 0, 1) := by decide +kernel
theorem dX12_goes_41 : decode cX12_goes 41 = .ok (.getfield 355, 3) := by decide +kernel
theorem dX12_goes_44 : decode cX12_goes 44 = .ok (.if_icmp .ge 26, 3) := by decide +kernel
theorem dX12_goes_47 : decode cX12_goes 47 = .ok (.aload_n 0, 1) := by decide +kernel
theorem dX12_goes_48 : decode cX12_goes 48 = .ok (.getfield 167, 3) := by decide +kernel
theorem dX12_goes_51 : decode cX12_goes 51 = .ok (.bipush 16, 2) := by decide +kernel
theorem dX12_goes_53 : decode cX12_goes 53 = .ok (.iload_n 2, 1) := by decide +kernel
theorem dX12_goes_54 : decode cX12_goes 54 = .ok (.imul, 1) := by decide +kernel
theorem dX12_goes_55 : decode cX12_goes 55 = .ok (.iload_n 3, 1) := by decide +kernel
theorem dX12_goes_56 : decode cX12_goes 56 = .ok (.iadd, 1) := by decide +kernel
theorem dX12_goes_57 : decode cX12_goes 57 = .ok (.aload_n 0, 1) := by decide +kernel
theorem dX12_goes_58 : decode cX12_goes 58 = .ok (.getfield 164, 3) := by decide +kernel
theorem dX12_goes_61 : decode cX12_goes 61 = .ok (.iload_n 3, 1) := by decide +kernel
theorem dX12_goes_62 : decode cX12_goes 62 = .ok (.iaload, 1) := by decide +kernel
theorem dX12_goes_63 : decode cX12_goes 63 = .ok (.iastore, 1) := by decide +kernel
theorem dX12_goes_64 : decode cX12_goes 64 = .ok (.iinc 3 1, 3) := by decide +kernel
theorem dX12_goes_67 : decode cX12_goes 67 = .ok (.goto (-28), 3) := by decide +kernel
theorem dX12_goes_70 : decode cX12_goes 70 = .ok (.aload_n 0, 1) := by decide +kernel
theorem dX12_goes_71 : decode cX12_goes 71 = .ok (.getfield 170, 3) := by decide +kernel
theorem dX12_goes_74 : decode cX12_goes 74 = .ok (.iload_n 2, 1) := by decide +kernel
theorem dX12_goes_75 : decode cX12_goes 75 = .ok (.aload_n 0, 1) := by decide +kernel
theorem dX12_goes_76 : decode cX12_goes 76 = .ok (.getfield 355, 3) := by decide +kernel
theorem dX12_goes_79 : decode cX12_goes 79 = .ok (.iastore, 1) := by decide +kernel
theorem dX12_goes_80 : decode cX12_goes 80 = .ok (.aload_n 0, 1) := by decide +kernel
theorem dX12_goes_81 : decode cX12_goes 81 = .ok (.getfield 173, 3) := by decide +kernel
theorem dX12_goes_84 : decode cX12_goes 84 = .ok (.iload_n 1, 1) := by decide +kernel
theorem dX12_goes_85 : decode cX12_goes 85 = .ok (.dup2, 1) := by decide +kernel
theorem dX12_goes_86 : decode cX12_goes 86 = .ok (.iaload, 1) := by decide +kernel
theorem dX12_goes_87 : decode cX12_goes 87 = .ok (.iconst 1, 1) := by decide +kernel
theorem dX12_goes_88 : decode cX12_goes 88 = .ok (.iadd, 1) := by decide +kernel
theorem dX12_goes_89 : decode cX12_goes 89 = .ok (.iastore, 1) := by decide +kernel
theorem dX12_goes_90 : decode cX12_goes 90 = .ok (.return_, 1) := by decide +kernel
theorem dX12_isSo_0 : decode cX12_isSo 0 = .ok (.iload_n 1, 1) := by decide +kernel
theorem dX12_isSo_1 : decode cX12_isSo 1 = .ok (.iconst 2, 1) := by decide +kernel
theorem dX12_isSo_2 : decode cX12_isSo 2 = .ok (.if_icmp .lt 33, 3) := by decide +kernel
theorem dX12_isSo_5 : decode cX12_isSo 5 = .ok (.aload_n 0, 1) := by decide +kernel
theorem dX12_isSo_6 : decode cX12_isSo 6 = .ok (.getfield 197, 3) := by decide +kernel
theorem dX12_isSo_9 : decode cX12_isSo 9 = .ok (.iconst 0, 1) := by decide +kernel
theorem dX12_isSo_10 : decode cX12_isSo 10 = .ok (.iaload, 1) := by decide +kernel
theorem dX12_isSo_11 : decode cX12_isSo 11 = .ok (.aload_n 0, 1) := by decide +kernel
theorem dX12_isSo_12 : decode cX12_isSo 12 = .ok (.getfield 255, 3) := by decide +kernel
theorem dX12_isSo_15 : decode cX12_isSo 15 = .ok (.if_icmp .ge 20, 3) := by decide +kernel
theorem dX12_isSo_18 : decode cX12_isSo 18 = .ok (.aload_n 0, 1) := by decide +kernel
theorem dX12_isSo_19 : decode cX12_isSo 19 = .ok (.getfield 197, 3) := by decide +kernel
theorem dX12_isSo_22 : decode cX12_isSo 22 = .ok (.iconst 1, 1) := by decide +kernel
theorem dX12_isSo_23 : decode cX12_isSo 23 = .ok (.iaload, 1) := by decide +kernel
theorem dX12_isSo_24 : decode cX12_isSo 24 = .ok (.i2l, 1) := by decide +kernel
theorem dX12_isSo_25 : decode cX12_isSo 25 = .ok (.lconst 1, 1) := by decide +kernel
theorem dX12_isSo_26 : decode cX12_isSo 26 = .ok (.ldc2_w 410, 3) := by decide +kernel
theorem dX12_isSo_29 : decode cX12_isSo 29 = .ok (.invokestatic 268, 3) := by decide +kernel
theorem dX12_isSo_32 : decode cX12_isSo 32 = .ok (.ifCond .ne 5, 3) := by decide +kernel
theorem dX12_isSo_35 : decode cX12_isSo 35 = .ok (.iconst 0, 1) := by decide +kernel
theorem dX12_isSo_36 : decode cX12_isSo 36 = .ok (.ireturn, 1) := by decide +kernel
theorem dX12_isSo_37 : decode cX12_isSo 37 = .ok (.aload_n 0, 1) := by decide +kernel
theorem dX12_isSo_38 : decode cX12_isSo 38 = .ok (.getfield 197, 3) := by decide +kernel
theorem dX12_isSo_41 : decode cX12_isSo 41 = .ok (.iconst 1, 1) := by decide +kernel
theorem dX12_isSo_42 : decode cX12_isSo 42 = .ok (.iaload, 1) := by decide +kernel
theorem dX12_isSo_43 : decode cX12_isSo 43 = .ok (.iconst 4, 1) := by decide +kernel
theorem dX12_isSo_44 : decode cX12_isSo 44 = .ok (.if_icmp .ne 14, 3) := by decide +kernel
theorem dX12_isSo_47 : decode cX12_isSo 47 = .ok (.iload_n 1, 1) := by decide +kernel
theorem dX12_isSo_48 : decode cX12_isSo 48 = .ok (.iconst 3, 1) := by decide +kernel
theorem dX12_isSo_49 : decode cX12_isSo 49 = .ok (.if_icmp .ne 7, 3) := by decide +kernel
theorem dX12_isSo_52 : decode cX12_isSo 52 = .ok (.iconst 1, 1) := by decide +kernel
theorem dX12_isSo_53 : decode cX12_isSo 53 = .ok (.goto 4, 3) := by decide +kernel
theorem dX12_isSo_56 : decode cX12_isSo 56 = .ok (.iconst 0, 1) := by decide +kernel
theorem dX12_isSo_57 : decode cX12_isSo 57 = .ok (.ireturn, 1) := by decide +kernel
theorem dX12_isSo_58 : decode cX12_isSo 58 = .ok (.aload_n 0, 1) := by decide +kernel
theorem dX12_isSo_59 : decode cX12_isSo 59 = .ok (.getfield 197, 3) := by decide +kernel
theorem dX12_isSo_62 : decode cX12_isSo 62 = .ok (.iconst 1, 1) := by decide +kernel
theorem dX12_isSo_63 : decode cX12_isSo 63 = .ok (.iaload, 1) := by decide +kernel
theorem dX12_isSo_64 : decode cX12_isSo 64 = .ok (.iconst 1, 1) := by decide +kernel
theorem dX12_isSo_65 : decode cX12_isSo 65 = .ok (.if_icmp .eq 14, 3) := by decide +kernel
theorem dX12_isSo_68 : decode cX12_isSo 68 = .ok (.iload_n 1, 1) := by decide +kernel
theorem dX12_isSo_69 : decode cX12_isSo 69 = .ok (.iconst 2, 1) := by decide +kernel
theorem dX12_isSo_70 : decode cX12_isSo 70 = .ok (.if_icmp .ne 7, 3) := by decide +kernel
theorem dX12_isSo_73 : decode cX12_isSo 73 = .ok (.iconst 1, 1) := by decide +kernel
theorem dX12_isSo_74 : decode cX12_isSo 74 = .ok (.goto 4, 3) := by decide +kernel
theorem dX12_isSo_77 : decode cX12_isSo 77 = .ok (.iconst 0, 1) := by decide +kernel
theorem dX12_isSo_78 : decode cX12_isSo 78 = .ok (.ireturn, 1) := by decide +kernel
theorem dX12_isSo_79 : decode cX12_isSo 79 = .ok (.iload_n 1, 1) := by decide +kernel
theorem dX12_isSo_80 : decode cX12_isSo 80 = .ok (.iconst 4, 1) := by decide +kernel
theorem dX12_isSo_81 : decode cX12_isSo 81 = .ok (.if_icmp .lt 36, 3) := by decide +kernel
theorem dX12_isSo_84 : decode cX12_isSo 84 = .ok (.aload_n 0, 1) := by decide +kernel
theorem dX12_isSo_85 : decode cX12_isSo 85 = .ok (.getfield 197, 3) := by decide +kernel
theorem dX12_isSo_88 : decode cX12_isSo 88 = .ok (.iconst 2, 1) := by decide +kernel
theorem dX12_isSo_89 : decode cX12_isSo 89 = .ok (.iaload, 1) := by decide +kernel
theorem dX12_isSo_90 : decode cX12_isSo 90 = .ok (.iconst 5, 1) := by decide +kernel
theorem dX12_isSo_91 : decode cX12_isSo 91 = .ok (.if_icmp .gt 26, 3) := by decide +kernel
theorem dX12_isSo_94 : decode cX12_isSo 94 = .ok (.aload_n 0, 1) := by decide +kernel
theorem dX12_isSo_95 : decode cX12_isSo 95 = .ok (.getfield 197, 3) := by decide +kernel
theorem dX12_isSo_98 : decode cX12_isSo 98 = .ok (.iconst 3, 1) := by decide +kernel
theorem dX12_isSo_99 : decode cX12_isSo 99 = .ok (.iaload, 1) := by decide +kernel
theorem dX12_isSo_100 : decode cX12_isSo 100 = .ok (.bipush 12, 2) := by decide +kernel
theorem dX12_isSo_102 : decode cX12_isSo 102 = .ok (.if_icmp .gt 15, 3) := by decide +kernel
theorem dX12_isSo_105 : decode cX12_isSo 105 = .ok (.iload_n 1, 1) := by decide +kernel
theorem dX12_isSo_106 : decode cX12_isSo 106 = .ok (.iconst 4, 1) := by decide +kernel
theorem dX12_isSo_107 : decode cX12_isSo 107 = .ok (.aload_n 0, 1) := by decide +kernel
theorem dX12_isSo_108 : decode cX12_isSo 108 = .ok (.getfield 197, 3) := by decide +kernel
theorem dX12_isSo_111 : decode cX12_isSo 111 = .ok (.iconst 3, 1) := by decide +kernel
theorem dX12_isSo_112 : decode cX12_isSo 112 = .ok (.iaload, 1) := by decide +kernel
theorem dX12_isSo_113 : decode cX12_isSo 113 = .ok (.iadd, 1) := by decide +kernel
theorem dX12_isSo_114 : decode cX12_isSo 114 = .ok (.if_icmp .eq 5, 3) := by decide +kernel
theorem dX12_isSo_117 : decode cX12_isSo 117 = .ok (.iconst 0, 1) := by decide +kernel
theorem dX12_isSo_118 : decode cX12_isSo 118 = .ok (.ireturn, 1) := by decide +kernel
theorem dX12_isSo_119 : decode cX12_isSo 119 = .ok (.iconst 4, 1) := by decide +kernel
theorem dX12_isSo_120 : decode cX12_isSo 120 = .ok (.istore_n 2, 1) := by decide +kernel
theorem dX12_isSo_121 : decode cX12_isSo 121 = .ok (.iload_n 2, 1) := by decide +kernel
theorem dX12_isSo_122 : decode cX12_isSo 122 = .ok (.iload_n 1, 1) := by decide +kernel
theorem dX12_isSo_123 : decode cX12_isSo 123 = .ok (.if_icmp .ge 22, 3) := by decide +kernel
theorem dX12_isSo_126 : decode cX12_isSo 126 = .ok (.aload_n 0, 1) := by decide +kernel
theorem dX12_isSo_127 : decode cX12_isSo 127 = .ok (.getfield 197, 3) := by decide +kernel
theorem dX12_isSo_130 : decode cX12_isSo 130 = .ok (.iload_n 2, 1) := by decide +kernel
theorem dX12_isSo_131 : decode cX12_isSo 131 = .ok (.iaload, 1) := by decide +kernel
theorem dX12_isSo_132 : decode cX12_isSo 132 = .ok (.bipush 11, 2) := by decide +kernel
theorem dX12_isSo_134 : decode cX12_isSo 134 = .ok (.if_icmp .le 5, 3) := by decide +kernel
theorem dX12_isSo_137 : decode cX12_isSo 137 = .ok (.iconst 0, 1) := by decide +kernel
theorem dX12_isSo_138 : decode cX12_isSo 138 = .ok (.ireturn, 1) := by decide +kernel
theorem dX12_isSo_139 : decode cX12_isSo 139 = .ok (.iinc 2 1, 3) := by decide +kernel
theorem dX12_isSo_142 : decode cX12_isSo 142 = .ok (.goto (-21), 3) := by decide +kernel
theorem dX12_isSo_145 : decode cX12_isSo 145 = .ok (.iconst 1, 1) := by decide +kernel
theorem dX12_isSo_146 : decode cX12_isSo 146 = .ok (.ireturn, 1) := by decide +kernel
theorem dX12_comes_0 : decode cX12_comes 0 = .ok (.aload_n 0, 1) := by decide +kernel
theorem dX12_comes_1 : decode cX12_comes 1 = .ok (.iload_n 2, 1) := by decide +kernel
theorem dX12_comes_2 : decode cX12_comes 2 = .ok (.invokevirtual 412, 3) := by decide +kernel
theorem dX12_comes_5 : decode cX12_comes 5 = .ok (.ifCond .ne 4, 3) := by decide +kernel
theorem dX12_comes_8 : decode cX12_comes 8 = .ok (.return_, 1) := by decide +kernel
theorem dX12_comes_9 : decode cX12_comes 9 = .ok (.bipush 16, 2) := by decide +kernel
theorem dX12_comes_11 : decode cX12_comes 11 = .ok (.iload_n 1, 1) := by decide +kernel
theorem dX12_comes_12 : decode cX12_comes 12 = .ok (.imul, 1) := by decide +kernel
theorem dX12_comes_13 : decode cX12_comes 13 = .ok (.aload_n 0, 1) := by decide +kernel
theorem dX12_comes_14 : decode cX12_comes 14 = .ok (.getfield 197, 3) := by decide +kernel
theorem dX12_comes_17 : decode cX12_comes 17 = .ok (.iconst 0, 1) := by decide +kernel
theorem dX12_comes_18 : decode cX12_comes 18 = .ok (.iaload, 1) := by decide +kernel
theorem dX12_comes_19 : decode cX12_comes 19 = .ok (.iadd, 1) := by decide +kernel
theorem dX12_comes_20 : decode cX12_comes 20 = .ok (.istore_n 3, 1) := by decide +kernel
theorem dX12_comes_21 : decode cX12_comes 21 = .ok (.aload_n 0, 1) := by decide +kernel
theorem dX12_comes_22 : decode cX12_comes 22 = .ok (.getfield 161, 3) := by decide +kernel
theorem dX12_comes_25 : decode cX12_comes 25 = .ok (.iload_n 3, 1) := by decide +kernel
theorem dX12_comes_26 : decode cX12_comes 26 = .ok (.iaload, 1) := by decide +kernel
theorem dX12_comes_27 : decode cX12_comes 27 = .ok (.istore 4, 2) := by decide +kernel
theorem dX12_comes_29 : decode cX12_comes 29 = .ok (.aload_n 0, 1) := by decide +kernel
theorem dX12_comes_30 : decode cX12_comes 30 = .ok (.getfield 158, 3) := by decide +kernel
theorem dX12_comes_33 : decode cX12_comes 33 = .ok (.iload_n 3, 1) := by decide +kernel
theorem dX12_comes_34 : decode cX12_comes 34 = .ok (.iaload, 1) := by decide +kernel
theorem dX12_comes_35 : decode cX12_comes 35 = .ok (.iconst 1, 1) := by decide +kernel
theorem dX12_comes_36 : decode cX12_comes 36 = .ok (.if_icmp .ne 7, 3) := by decide +kernel
theorem dX12_comes_39 : decode cX12_comes 39 = .ok (.iconst 1, 1) := by decide +kernel
theorem dX12_comes_40 : decode cX12_comes 40 = .ok (.goto 4, 3) := by decide +kernel
theorem dX12_comes_43 : decode cX12_comes 43 = .ok (.iconst 0, 1) := by decide +kernel
theorem dX12_comes_44 : decode cX12_comes 44 = .ok (.istore 5, 2) := by decide +kernel
theorem dX12_comes_46 : decode cX12_comes 46 = .ok (.aload_n 0, 1) := by decide +kernel
theorem dX12_comes_47 : decode cX12_comes 47 = .ok (.getfield 197, 3) := by decide +kernel
theorem dX12_comes_50 : decode cX12_comes 50 = .ok (.iconst 1, 1) := by decide +kernel
theorem dX12_comes_51 : decode cX12_comes 51 = .ok (.iaload, 1) := by decide +kernel
theorem dX12_comes_52 : decode cX12_comes 52 = .ok (.tableswitch 261 1 4 #[32, 113, 145, 181], 32) := by decide +kernel
theorem dX12_comes_84 : decode cX12_comes 84 = .ok (.iload 5, 2) := by decide +kernel
theorem dX12_comes_86 : decode cX12_comes 86 = .ok (.ifCond .eq 62, 3) := by decide +kernel
theorem dX12_comes_89 : decode cX12_comes 89 = .ok (.aload_n 0, 1) := by decide +kernel
theorem dX12_comes_90 : decode cX12_comes 90 = .ok (.getfield 95, 3) := by decide +kernel
theorem dX12_comes_93 : decode cX12_comes 93 = .ok (.iload 4, 2) := by decide +kernel
theorem dX12_comes_95 : decode cX12_comes 95 = .ok (.iaload, 1) := by decide +kernel
theorem dX12_comes_96 : decode cX12_comes 96 = .ok (.iconst 1, 1) := by decide +kernel
theorem dX12_comes_97 : decode cX12_comes 97 = .ok (.if_icmp .ne 51, 3) := by decide +kernel
theorem dX12_comes_100 : decode cX12_comes 100 = .ok (.aload_n 0, 1) := by decide +kernel
theorem dX12_comes_101 : decode cX12_comes 101 = .ok (.getfield 197, 3) := by decide +kernel
theorem dX12_comes_104 : decode cX12_comes 104 = .ok (.iconst 0, 1) := by decide +kernel
theorem dX12_comes_105 : decode cX12_comes 105 = .ok (.iaload, 1) := by decide +kernel
theorem dX12_comes_106 : decode cX12_comes 106 = .ok (.iconst 2, 1) := by decide +kernel
theorem dX12_comes_107 : decode cX12_comes 107 = .ok (.irem, 1) := by decide +kernel
theorem dX12_comes_108 : decode cX12_comes 108 = .ok (.iload_n 1, 1) := by decide +kernel
theorem dX12_comes_109 : decode cX12_comes 109 = .ok (.if_icmp .eq 39, 3) := by decide +kernel
theorem dX12_comes_112 : decode cX12_comes 112 = .ok (.aload_n 0, 1) := by decide +kernel
theorem dX12_comes_113 : decode cX12_comes 113 = .ok (.getfield 158, 3) := by decide +kernel
theorem dX12_comes_116 : decode cX12_comes 116 = .ok (.iload_n 3, 1) := by decide +kernel
theorem dX12_comes_117 : decode cX12_comes 117 = .ok (.iconst 2, 1) := by decide +kernel
theorem dX12_comes_118 : decode cX12_comes 118 = .ok (.iastore, 1) := by decide +kernel
theorem dX12_comes_119 : decode cX12_comes 119 = .ok (.aload_n 0, 1) := by decide +kernel
theorem dX12_comes_120 : decode cX12_comes 120 = .ok (.getfield 161, 3) := by decide +kernel
theorem dX12_comes_123 : decode cX12_comes 123 = .ok (.iload_n 3, 1) := by decide +kernel
theorem dX12_comes_124 : decode cX12_comes 124 = .ok (.iconst (-1), 1) := by decide +kernel
theorem dX12_comes_125 : decode cX12_comes 125 = .ok (.iastore, 1) := by decide +kernel
theorem dX12_comes_126 : decode cX12_comes 126 = .ok (.aload_n 0, 1) := by decide +kernel
theorem dX12_comes_127 : decode cX12_comes 127 = .ok (.getfield 107, 3) := by decide +kernel
theorem dX12_comes_130 : decode cX12_comes 130 = .ok (.iload 4, 2) := by decide +kernel
theorem dX12_comes_132 : decode cX12_comes 132 = .ok (.iconst (-1), 1) := by decide +kernel
theorem dX12_comes_133 : decode cX12_comes 133 = .ok (.iastore, 1) := by decide +kernel
theorem dX12_comes_134 : decode cX12_comes 134 = .ok (.aload_n 0, 1) := by decide +kernel
theorem dX12_comes_135 : decode cX12_comes 135 = .ok (.iload 4, 2) := by decide +kernel
theorem dX12_comes_137 : decode cX12_comes 137 = .ok (.invokevirtual 340, 3) := by decide +kernel
theorem dX12_comes_140 : decode cX12_comes 140 = .ok (.aload_n 0, 1) := by decide +kernel
theorem dX12_comes_141 : decode cX12_comes 141 = .ok (.iload_n 1, 1) := by decide +kernel
theorem dX12_comes_142 : decode cX12_comes 142 = .ok (.invokevirtual 415, 3) := by decide +kernel
theorem dX12_comes_145 : decode cX12_comes 145 = .ok (.goto 185, 3) := by decide +kernel
theorem dX12_comes_148 : decode cX12_comes 148 = .ok (.aload_n 0, 1) := by decide +kernel
theorem dX12_comes_149 : decode cX12_comes 149 = .ok (.getfield 158, 3) := by decide +kernel
theorem dX12_comes_152 : decode cX12_comes 152 = .ok (.iload_n 3, 1) := by decide +kernel
theorem dX12_comes_153 : decode cX12_comes 153 = .ok (.iaload, 1) := by decide +kernel
theorem dX12_comes_154 : decode cX12_comes 154 = .ok (.ifCond .ne 176, 3) := by decide +kernel
theorem dX12_comes_157 : decode cX12_comes 157 = .ok (.aload_n 0, 1) := by decide +kernel
theorem dX12_comes_158 : decode cX12_comes 158 = .ok (.iload_n 1, 1) := by decide +kernel
theorem dX12_comes_159 : decode cX12_comes 159 = .ok (.invokevirtual 415, 3) := by decide +kernel
theorem dX12_comes_162 : decode cX12_comes 162 = .ok (.goto 168, 3) := by decide +kernel
theorem dX12_comes_165 : decode cX12_comes 165 = .ok (.iload 5, 2) := by decide +kernel
theorem dX12_comes_167 : decode cX12_comes 167 = .ok (.ifCond .eq 163, 3) := by decide +kernel
theorem dX12_comes_170 : decode cX12_comes 170 = .ok (.aload_n 0, 1) := by decide +kernel
theorem dX12_comes_171 : decode cX12_comes 171 = .ok (.getfield 95, 3) := by decide +kernel
theorem dX12_comes_174 : decode cX12_comes 174 = .ok (.iload 4, 2) := by decide +kernel
theorem dX12_comes_176 : decode cX12_comes 176 = .ok (.iaload, 1) := by decide +kernel
theorem dX12_comes_177 : decode cX12_comes 177 = .ok (.iconst 1, 1) := by decide +kernel
theorem dX12_comes_178 : decode cX12_comes 178 = .ok (.if_icmp .ne 152, 3) := by decide +kernel
theorem dX12_comes_181 : decode cX12_comes 181 = .ok (.aload_n 0, 1) := by decide +kernel
theorem dX12_comes_182 : decode cX12_comes 182 = .ok (.iload 4, 2) := by decide +kernel
theorem dX12_comes_184 : decode cX12_comes 184 = .ok (.iconst 2, 1) := by decide +kernel
theorem dX12_comes_185 : decode cX12_comes 185 = .ok (.invokevirtual 361, 3) := by decide +kernel
theorem dX12_comes_188 : decode cX12_comes 188 = .ok (.aload_n 0, 1) := by decide +kernel
theorem dX12_comes_189 : decode cX12_comes 189 = .ok (.iload 4, 2) := by decide +kernel
theorem dX12_comes_191 : decode cX12_comes 191 = .ok (.invokevirtual 364, 3) := by decide +kernel
theorem dX12_comes_194 : decode cX12_comes 194 = .ok (.goto 136, 3) := by decide +kernel
theorem dX12_comes_197 : decode cX12_comes 197 = .ok (.iload 5, 2) := by decide +kernel
theorem dX12_comes_199 : decode cX12_comes 199 = .ok (.ifCond .eq 131, 3) := by decide +kernel
theorem dX12_comes_202 : decode cX12_comes 202 = .ok (.aload_n 0, 1) := by decide +kernel
theorem dX12_comes_203 : decode cX12_comes 203 = .ok (.getfield 95, 3) := by decide +kernel
theorem dX12_comes_206 : decode cX12_comes 206 = .ok (.iload 4, 2) := by decide +kernel
theorem dX12_comes_208 : decode cX12_comes 208 = .ok (.iaload, 1) := by decide +kernel
theorem dX12_comes_209 : decode cX12_comes 209 = .ok (.iconst 1, 1) := by decide +kernel
theorem dX12_comes_210 : decode cX12_comes 210 = .ok (.if_icmp .eq 14, 3) := by decide +kernel
theorem dX12_comes_213 : decode cX12_comes 213 = .ok (.aload_n 0, 1) := by decide +kernel
theorem dX12_comes_214 : decode cX12_comes 214 = .ok (.getfield 95, 3) := by decide +kernel
theorem dX12_comes_217 : decode cX12_comes 217 = .ok (.iload 4, 2) := by decide +kernel
theorem dX12_comes_219 : decode cX12_comes 219 = .ok (.iaload, 1) := by decide +kernel
theorem dX12_comes_220 : decode cX12_comes 220 = .ok (.iconst 2, 1) := by decide +kernel
theorem dX12_comes_221 : decode cX12_comes 221 = .ok (.if_icmp .ne 109, 3) := by decide +kernel
theorem dX12_comes_224 : decode cX12_comes 224 = .ok (.aload_n 0, 1) := by decide +kernel
theorem dX12_comes_225 : decode cX12_comes 225 = .ok (.iload 4, 2) := by decide +kernel
theorem dX12_comes_227 : decode cX12_comes 227 = .ok (.invokevirtual 320, 3) := by decide +kernel
theorem dX12_comes_230 : decode cX12_comes 230 = .ok (.goto 100, 3) := by decide +kernel
theorem dX12_comes_233 : decode cX12_comes 233 = .ok (.aload_n 0, 1) := by decide +kernel
