theorem dX12_sounds_23 : decode cX12_sounds 23 = .ok (.iconst 5, 1) := by decide +kernel
theorem dX12_sounds_24 : decode cX12_sounds 24 = .ok (.ireturn, 1) := by decide +kernel
theorem dX12_sounds_25 : decode cX12_sounds 25 = .ok (.aload_n 0, 1) := by decide +kernel
theorem dX12_sounds_26 : decode cX12_sounds 26 = .ok (.getfield 56, 3) := by decide +kernel
theorem dX12_sounds_29 : decode cX12_sounds 29 = .ok (.iload_n 1, 1) := by decide +kernel
theorem dX12_sounds_30 : decode cX12_sounds 30 = .ok (.iaload, 1) := by decide +kernel
theorem dX12_sounds_31 : decode cX12_sounds 31 = .ok (.istore_n 2, 1) := by decide +kernel
theorem dX12_sounds_32 : decode cX12_sounds 32 = .ok (.iload_n 2, 1) := by decide +kernel
theorem dX12_sounds_33 : decode cX12_sounds 33 = .ok (.iconst (-1), 1) := by decide +kernel
theorem dX12_sounds_34 : decode cX12_sounds 34 = .ok (.if_icmp .ne 10, 3) := by decide +kernel
theorem dX12_sounds_37 : decode cX12_sounds 37 = .ok (.aload_n 0, 1) := by decide +kernel
theorem dX12_sounds_38 : decode cX12_sounds 38 = .ok (.getfield 68, 3) := by decide +kernel
theorem dX12_sounds_41 : decode cX12_sounds 41 = .ok (.iload_n 1, 1) := by decide +kernel
theorem dX12_sounds_42 : decode cX12_sounds 42 = .ok (.iaload, 1) := by decide +kernel
theorem dX12_sounds_43 : decode cX12_sounds 43 = .ok (.ireturn, 1) := by decide +kernel
theorem dX12_sounds_44 : decode cX12_sounds 44 = .ok (.aload_n 0, 1) := by decide +kernel
theorem dX12_sounds_45 : decode cX12_sounds 45 = .ok (.getfield 95, 3) := by decide +kernel
theorem dX12_sounds_48 : decode cX12_sounds 48 = .ok (.iload_n 2, 1) := by decide +kernel
theorem dX12_sounds_49 : decode cX12_sounds 49 = .ok (.iaload, 1) := by decide +kernel
theorem dX12_sounds_50 : decode cX12_sounds 50 = .ok (.tableswitch 56 0 4 #[34, 49, 51, 56, 53], 34) := by decide +kernel
theorem dX12_sounds_84 : decode cX12_sounds 84 = .ok (.aload_n 0, 1) := by decide +kernel
theorem dX12_sounds_85 : decode cX12_sounds 85 = .ok (.getfield 116, 3) := by decide +kernel
theorem dX12_sounds_88 : decode cX12_sounds 88 = .ok (.iload_n 2, 1) := by decide +kernel
theorem dX12_sounds_89 : decode cX12_sounds 89 = .ok (.iaload, 1) := by decide +kernel
theorem dX12_sounds_90 : decode cX12_sounds 90 = .ok (.ifCond .ne 7, 3) := by decide +kernel
theorem dX12_sounds_93 : decode cX12_sounds 93 = .ok (.iconst 1, 1) := by decide +kernel
theorem dX12_sounds_94 : decode cX12_sounds 94 = .ok (.goto 4, 3) := by decide +kernel
theorem dX12_sounds_97 : decode cX12_sounds 97 = .ok (.iconst 0, 1) := by decide +kernel
theorem dX12_sounds_98 : decode cX12_sounds 98 = .ok (.ireturn, 1) := by decide +kernel
theorem dX12_sounds_99 : decode cX12_sounds 99 = .ok (.iconst 0, 1) := by decide +kernel
theorem dX12_sounds_100 : decode cX12_sounds 100 = .ok (.ireturn, 1) := by decide +kernel
theorem dX12_sounds_101 : decode cX12_sounds 101 = .ok (.iconst 2, 1) := by decide +kernel
theorem dX12_sounds_102 : decode cX12_sounds 102 = .ok (.ireturn, 1) := by decide +kernel
theorem dX12_sounds_103 : decode cX12_sounds 103 = .ok (.bipush 6, 2) := by decide +kernel
theorem dX12_sounds_105 : decode cX12_sounds 105 = .ok (.ireturn, 1) := by decide +kernel
theorem dX12_sounds_106 : decode cX12_sounds 106 = .ok (.aload_n 0, 1) := by decide +kernel
theorem dX12_sounds_107 : decode cX12_sounds 107 = .ok (.getfield 59, 3) := by decide +kernel
theorem dX12_sounds_110 : decode cX12_sounds 110 = .ok (.iload_n 1, 1) := by decide +kernel
theorem dX12_sounds_111 : decode cX12_sounds 111 = .ok (.iaload, 1) := by decide +kernel
theorem dX12_sounds_112 : decode cX12_sounds 112 = .ok (.iconst (-1), 1) := by decide +kernel
theorem dX12_sounds_113 : decode cX12_sounds 113 = .ok (.if_icmp .eq 23, 3) := by decide +kernel
theorem dX12_sounds_116 : decode cX12_sounds 116 = .ok (.aload_n 0, 1) := by decide +kernel
theorem dX12_sounds_117 : decode cX12_sounds 117 = .ok (.getfield 95, 3) := by decide +kernel
theorem dX12_sounds_120 : decode cX12_sounds 120 = .ok (.aload_n 0, 1) := by decide +kernel
theorem dX12_sounds_121 : decode cX12_sounds 121 = .ok (.getfield 59, 3) := by decide +kernel
theorem dX12_sounds_124 : decode cX12_sounds 124 = .ok (.iload_n 1, 1) := by decide +kernel
theorem dX12_sounds_125 : decode cX12_sounds 125 = .ok (.iaload, 1) := by decide +kernel
theorem dX12_sounds_126 : decode cX12_sounds 126 = .ok (.iaload, 1) := by decide +kernel
theorem dX12_sounds_127 : decode cX12_sounds 127 = .ok (.iconst 2, 1) := by decide +kernel
theorem dX12_sounds_128 : decode cX12_sounds 128 = .ok (.if_icmp .ne 8, 3) := by decide +kernel
theorem dX12_sounds_131 : decode cX12_sounds 131 = .ok (.bipush 8, 2) := by decide +kernel
theorem dX12_sounds_133 : decode cX12_sounds 133 = .ok (.goto 5, 3) := by decide +kernel
theorem dX12_sounds_136 : decode cX12_sounds 136 = .ok (.bipush 7, 2) := by decide +kernel
theorem dX12_sounds_138 : decode cX12_sounds 138 = .ok (.ireturn, 1) := by decide +kernel
theorem dX12_line_0 : decode cX12_line 0 = .ok (.iload_n 1, 1) := by decide +kernel
theorem dX12_line_1 : decode cX12_line 1 = .ok (.invokestatic 288, 3) := by decide +kernel
theorem dX12_line_4 : decode cX12_line 4 = .ok (.ifCond .eq 15, 3) := by decide +kernel
theorem dX12_line_7 : decode cX12_line 7 = .ok (.iload_n 2, 1) := by decide +kernel
theorem dX12_line_8 : decode cX12_line 8 = .ok (.i2l, 1) := by decide +kernel
theorem dX12_line_9 : decode cX12_line 9 = .ok (.lconst 0, 1) := by decide +kernel
theorem dX12_line_10 : decode cX12_line 10 = .ok (.ldc2_w 508, 3) := by decide +kernel
theorem dX12_line_13 : decode cX12_line 13 = .ok (.invokestatic 268, 3) := by decide +kernel
theorem dX12_line_16 : decode cX12_line 16 = .ok (.ifCond .ne 6, 3) := by decide +kernel
theorem dX12_line_19 : decode cX12_line 19 = .ok (.bipush (-2), 2) := by decide +kernel
theorem dX12_line_21 : decode cX12_line 21 = .ok (.ireturn, 1) := by decide +kernel
theorem dX12_line_22 : decode cX12_line 22 = .ok (.aload_n 0, 1) := by decide +kernel
theorem dX12_line_23 : decode cX12_line 23 = .ok (.getfield 56, 3) := by decide +kernel
theorem dX12_line_26 : decode cX12_line 26 = .ok (.iload_n 1, 1) := by decide +kernel
theorem dX12_line_27 : decode cX12_line 27 = .ok (.iaload, 1) := by decide +kernel
theorem dX12_line_28 : decode cX12_line 28 = .ok (.istore_n 3, 1) := by decide +kernel
theorem dX12_line_29 : decode cX12_line 29 = .ok (.aload_n 0, 1) := by decide +kernel
theorem dX12_line_30 : decode cX12_line 30 = .ok (.getfield 59, 3) := by decide +kernel
theorem dX12_line_33 : decode cX12_line 33 = .ok (.iload_n 1, 1) := by decide +kernel
theorem dX12_line_34 : decode cX12_line 34 = .ok (.iaload, 1) := by decide +kernel
theorem dX12_line_35 : decode cX12_line 35 = .ok (.istore 4, 2) := by decide +kernel
theorem dX12_line_37 : decode cX12_line 37 = .ok (.iload_n 2, 1) := by decide +kernel
theorem dX12_line_38 : decode cX12_line 38 = .ok (.tableswitch 155 0 7 #[46, 61, 67, 83, 110, 117, 132, 139], 46) := by decide +kernel
theorem dX12_line_84 : decode cX12_line 84 = .ok (.aload_n 0, 1) := by decide +kernel
theorem dX12_line_85 : decode cX12_line 85 = .ok (.getfield 34, 3) := by decide +kernel
theorem dX12_line_88 : decode cX12_line 88 = .ok (.iload_n 1, 1) := by decide +kernel
theorem dX12_line_89 : decode cX12_line 89 = .ok (.baload, 1) := by decide +kernel
theorem dX12_line_90 : decode cX12_line 90 = .ok (.ifCond .eq 7, 3) := by decide +kernel
theorem dX12_line_93 : decode cX12_line 93 = .ok (.iconst 1, 1) := by decide +kernel
theorem dX12_line_94 : decode cX12_line 94 = .ok (.goto 4, 3) := by decide +kernel
theorem dX12_line_97 : decode cX12_line 97 = .ok (.iconst 0, 1) := by decide +kernel
theorem dX12_line_98 : decode cX12_line 98 = .ok (.ireturn, 1) := by decide +kernel
theorem dX12_line_99 : decode cX12_line 99 = .ok (.aload_n 0, 1) := by decide +kernel
theorem dX12_line_100 : decode cX12_line 100 = .ok (.iload_n 1, 1) := by decide +kernel
theorem dX12_line_101 : decode cX12_line 101 = .ok (.invokevirtual 510, 3) := by decide +kernel
theorem dX12_line_104 : decode cX12_line 104 = .ok (.ireturn, 1) := by decide +kernel
theorem dX12_line_105 : decode cX12_line 105 = .ok (.iload_n 3, 1) := by decide +kernel
theorem dX12_line_106 : decode cX12_line 106 = .ok (.iconst (-1), 1) := by decide +kernel
theorem dX12_line_107 : decode cX12_line 107 = .ok (.if_icmp .ne 7, 3) := by decide +kernel
theorem dX12_line_110 : decode cX12_line 110 = .ok (.iconst (-1), 1) := by decide +kernel
theorem dX12_line_111 : decode cX12_line 111 = .ok (.goto 9, 3) := by decide +kernel
theorem dX12_line_114 : decode cX12_line 114 = .ok (.aload_n 0, 1) := by decide +kernel
theorem dX12_line_115 : decode cX12_line 115 = .ok (.getfield 95, 3) := by decide +kernel
theorem dX12_line_118 : decode cX12_line 118 = .ok (.iload_n 3, 1) := by decide +kernel
theorem dX12_line_119 : decode cX12_line 119 = .ok (.iaload, 1) := by decide +kernel
theorem dX12_line_120 : decode cX12_line 120 = .ok (.ireturn, 1) := by decide +kernel
theorem dX12_line_121 : decode cX12_line 121 = .ok (.iload 4, 2) := by decide +kernel
theorem dX12_line_123 : decode cX12_line 123 = .ok (.iconst (-1), 1) := by decide +kernel
theorem dX12_line_124 : decode cX12_line 124 = .ok (.if_icmp .ne 7, 3) := by decide +kernel
theorem dX12_line_127 : decode cX12_line 127 = .ok (.iconst 0, 1) := by decide +kernel
theorem dX12_line_128 : decode cX12_line 128 = .ok (.goto 19, 3) := by decide +kernel
theorem dX12_line_131 : decode cX12_line 131 = .ok (.aload_n 0, 1) := by decide +kernel
theorem dX12_line_132 : decode cX12_line 132 = .ok (.getfield 95, 3) := by decide +kernel
theorem dX12_line_135 : decode cX12_line 135 = .ok (.iload 4, 2) := by decide +kernel
theorem dX12_line_137 : decode cX12_line 137 = .ok (.iaload, 1) := by decide +kernel
theorem dX12_line_138 : decode cX12_line 138 = .ok (.iconst 2, 1) := by decide +kernel
theorem dX12_line_139 : decode cX12_line 139 = .ok (.if_icmp .ne 7, 3) := by decide +kernel
theorem dX12_line_142 : decode cX12_line 142 = .ok (.iconst 1, 1) := by decide +kernel
theorem dX12_line_143 : decode cX12_line 143 = .ok (.goto 4, 3) := by decide +kernel
theorem dX12_line_146 : decode cX12_line 146 = .ok (.iconst 2, 1) := by decide +kernel
theorem dX12_line_147 : decode cX12_line 147 = .ok (.ireturn, 1) := by decide +kernel
theorem dX12_line_148 : decode cX12_line 148 = .ok (.aload_n 0, 1) := by decide +kernel
theorem dX12_line_149 : decode cX12_line 149 = .ok (.getfield 65, 3) := by decide +kernel
theorem dX12_line_152 : decode cX12_line 152 = .ok (.iload_n 1, 1) := by decide +kernel
theorem dX12_line_153 : decode cX12_line 153 = .ok (.iaload, 1) := by decide +kernel
theorem dX12_line_154 : decode cX12_line 154 = .ok (.ireturn, 1) := by decide +kernel
theorem dX12_line_155 : decode cX12_line 155 = .ok (.aload_n 0, 1) := by decide +kernel
theorem dX12_line_156 : decode cX12_line 156 = .ok (.getfield 71, 3) := by decide +kernel
theorem dX12_line_159 : decode cX12_line 159 = .ok (.iload_n 1, 1) := by decide +kernel
theorem dX12_line_160 : decode cX12_line 160 = .ok (.baload, 1) := by decide +kernel
theorem dX12_line_161 : decode cX12_line 161 = .ok (.ifCond .eq 7, 3) := by decide +kernel
theorem dX12_line_164 : decode cX12_line 164 = .ok (.iconst 1, 1) := by decide +kernel
theorem dX12_line_165 : decode cX12_line 165 = .ok (.goto 4, 3) := by decide +kernel
theorem dX12_line_168 : decode cX12_line 168 = .ok (.iconst 0, 1) := by decide +kernel
theorem dX12_line_169 : decode cX12_line 169 = .ok (.ireturn, 1) := by decide +kernel
theorem dX12_line_170 : decode cX12_line 170 = .ok (.aload_n 0, 1) := by decide +kernel
theorem dX12_line_171 : decode cX12_line 171 = .ok (.getfield 77, 3) := by decide +kernel
theorem dX12_line_174 : decode cX12_line 174 = .ok (.iload_n 1, 1) := by decide +kernel
theorem dX12_line_175 : decode cX12_line 175 = .ok (.iaload, 1) := by decide +kernel
theorem dX12_line_176 : decode cX12_line 176 = .ok (.ireturn, 1) := by decide +kernel
theorem dX12_line_177 : decode cX12_line 177 = .ok (.iload_n 3, 1) := by decide +kernel
theorem dX12_line_178 : decode cX12_line 178 = .ok (.iconst (-1), 1) := by decide +kernel
theorem dX12_line_179 : decode cX12_line 179 = .ok (.if_icmp .ne 7, 3) := by decide +kernel
theorem dX12_line_182 : decode cX12_line 182 = .ok (.iconst 0, 1) := by decide +kernel
theorem dX12_line_183 : decode cX12_line 183 = .ok (.goto 9, 3) := by decide +kernel
theorem dX12_line_186 : decode cX12_line 186 = .ok (.aload_n 0, 1) := by decide +kernel
theorem dX12_line_187 : decode cX12_line 187 = .ok (.getfield 116, 3) := by decide +kernel
theorem dX12_line_190 : decode cX12_line 190 = .ok (.iload_n 3, 1) := by decide +kernel
theorem dX12_line_191 : decode cX12_line 191 = .ok (.iaload, 1) := by decide +kernel
theorem dX12_line_192 : decode cX12_line 192 = .ok (.ireturn, 1) := by decide +kernel
theorem dX12_line_193 : decode cX12_line 193 = .ok (.aload_n 0, 1) := by decide +kernel
theorem dX12_line_194 : decode cX12_line 194 = .ok (.getfield 53, 3) := by decide +kernel
theorem dX12_line_197 : decode cX12_line 197 = .ok (.iload_n 1, 1) := by decide +kernel
theorem dX12_line_198 : decode cX12_line 198 = .ok (.iaload, 1) := by decide +kernel
theorem dX12_line_199 : decode cX12_line 199 = .ok (.ireturn, 1) := by decide +kernel
theorem dX12_partner_0 : decode cX12_partner 0 = .ok (.iload_n 1, 1) := by decide +kernel
theorem dX12_partner_1 : decode cX12_partner 1 = .ok (.invokestatic 288, 3) := by decide +kernel
theorem dX12_partner_4 : decode cX12_partner 4 = .ok (.ifCond .ne 6, 3) := by decide +kernel
theorem dX12_partner_7 : decode cX12_partner 7 = .ok (.bipush (-2), 2) := by decide +kernel
theorem dX12_partner_9 : decode cX12_partner 9 = .ok (.ireturn, 1) := by decide +kernel
theorem dX12_partner_10 : decode cX12_partner 10 = .ok (.aload_n 0, 1) := by decide +kernel
theorem dX12_partner_11 : decode cX12_partner 11 = .ok (.getfield 56, 3) := by decide +kernel
theorem dX12_partner_14 : decode cX12_partner 14 = .ok (.iload_n 1, 1) := by decide +kernel
theorem dX12_partner_15 : decode cX12_partner 15 = .ok (.iaload, 1) := by decide +kernel
theorem dX12_partner_16 : decode cX12_partner 16 = .ok (.istore_n 2, 1) := by decide +kernel
theorem dX12_partner_17 : decode cX12_partner 17 = .ok (.iload_n 2, 1) := by decide +kernel
theorem dX12_partner_18 : decode cX12_partner 18 = .ok (.iconst (-1), 1) := by decide +kernel
theorem dX12_partner_19 : decode cX12_partner 19 = .ok (.if_icmp .eq 13, 3) := by decide +kernel
theorem dX12_partner_22 : decode cX12_partner 22 = .ok (.aload_n 0, 1) := by decide +kernel
theorem dX12_partner_23 : decode cX12_partner 23 = .ok (.getfield 95, 3) := by decide +kernel
theorem dX12_partner_26 : decode cX12_partner 26 = .ok (.iload_n 2, 1) := by decide +kernel
theorem dX12_partner_27 : decode cX12_partner 27 = .ok (.iaload, 1) := by decide +kernel
theorem dX12_partner_28 : decode cX12_partner 28 = .ok (.iconst 3, 1) := by decide +kernel
theorem dX12_partner_29 : decode cX12_partner 29 = .ok (.if_icmp .eq 7, 3) := by decide +kernel
theorem dX12_partner_32 : decode cX12_partner 32 = .ok (.iconst (-1), 1) := by decide +kernel
theorem dX12_partner_33 : decode cX12_partner 33 = .ok (.goto 28, 3) := by decide +kernel
theorem dX12_partner_36 : decode cX12_partner 36 = .ok (.aload_n 0, 1) := by decide +kernel
theorem dX12_partner_37 : decode cX12_partner 37 = .ok (.getfield 104, 3) := by decide +kernel
theorem dX12_partner_40 : decode cX12_partner 40 = .ok (.iload_n 2, 1) := by decide +kernel
theorem dX12_partner_41 : decode cX12_partner 41 = .ok (.iaload, 1) := by decide +kernel
theorem dX12_partner_42 : decode cX12_partner 42 = .ok (.iload_n 1, 1) := by decide +kernel
theorem dX12_partner_43 : decode cX12_partner 43 = .ok (.if_icmp .ne 12, 3) := by decide +kernel
theorem dX12_partner_46 : decode cX12_partner 46 = .ok (.aload_n 0, 1) := by decide +kernel
theorem dX12_partner_47 : decode cX12_partner 47 = .ok (.getfield 107, 3) := by decide +kernel
theorem dX12_partner_50 : decode cX12_partner 50 = .ok (.iload_n 2, 1) := by decide +kernel
theorem dX12_partner_51 : decode cX12_partner 51 = .ok (.iaload, 1) := by decide +kernel
theorem dX12_partner_52 : decode cX12_partner 52 = .ok (.goto 9, 3) := by decide +kernel
theorem dX12_partner_55 : decode cX12_partner 55 = .ok (.aload_n 0, 1) := by decide +kernel
theorem dX12_partner_56 : decode cX12_partner 56 = .ok (.getfield 104, 3) := by decide +kernel
theorem dX12_partner_59 : decode cX12_partner 59 = .ok (.iload_n 2, 1) := by decide +kernel
theorem dX12_partner_60 : decode cX12_partner 60 = .ok (.iaload, 1) := by decide +kernel
theorem dX12_partner_61 : decode cX12_partner 61 = .ok (.ireturn, 1) := by decide +kernel
theorem dX12_heard_0 : decode cX12_heard 0 = .ok (.iload_n 1, 1) := by decide +kernel
theorem dX12_heard_1 : decode cX12_heard 1 = .ok (.invokestatic 288, 3) := by decide +kernel
theorem dX12_heard_4 : decode cX12_heard 4 = .ok (.ifCond .eq 12, 3) := by decide +kernel
theorem dX12_heard_7 : decode cX12_heard 7 = .ok (.aload_n 0, 1) := by decide +kernel
theorem dX12_heard_8 : decode cX12_heard 8 = .ok (.getfield 92, 3) := by decide +kernel
theorem dX12_heard_11 : decode cX12_heard 11 = .ok (.iload_n 1, 1) := by decide +kernel
theorem dX12_heard_12 : decode cX12_heard 12 = .ok (.iaload, 1) := by decide +kernel
theorem dX12_heard_13 : decode cX12_heard 13 = .ok (.goto 5, 3) := by decide +kernel
theorem dX12_heard_16 : decode cX12_heard 16 = .ok (.bipush (-2), 2) := by decide +kernel
theorem dX12_heard_18 : decode cX12_heard 18 = .ok (.ireturn, 1) := by decide +kernel
theorem dX12_circuit_0 : decode cX12_circuit 0 = .ok (.iload_n 1, 1) := by decide +kernel
theorem dX12_circuit_1 : decode cX12_circuit 1 = .ok (.i2l, 1) := by decide +kernel
theorem dX12_circuit_2 : decode cX12_circuit 2 = .ok (.lconst 0, 1) := by decide +kernel
theorem dX12_circuit_3 : decode cX12_circuit 3 = .ok (.lconst 1, 1) := by decide +kernel
theorem dX12_circuit_4 : decode cX12_circuit 4 = .ok (.invokestatic 268, 3) := by decide +kernel
theorem dX12_circuit_7 : decode cX12_circuit 7 = .ok (.ifCond .eq 33, 3) := by decide +kernel
theorem dX12_circuit_10 : decode cX12_circuit 10 = .ok (.iload_n 2, 1) := by decide +kernel
theorem dX12_circuit_11 : decode cX12_circuit 11 = .ok (.i2l, 1) := by decide +kernel
theorem dX12_circuit_12 : decode cX12_circuit 12 = .ok (.lconst 0, 1) := by decide +kernel
theorem dX12_circuit_13 : decode cX12_circuit 13 = .ok (.aload_n 0, 1) := by decide +kernel
theorem dX12_circuit_14 : decode cX12_circuit 14 = .ok (.getfield 255, 3) := by decide +kernel
theorem dX12_circuit_17 : decode cX12_circuit 17 = .ok (.iconst 1, 1) := by decide +kernel
theorem dX12_circuit_18 : decode cX12_circuit 18 = .ok (.isub, 1) := by decide +kernel
theorem dX12_circuit_19 : decode cX12_circuit 19 = .ok (.i2l, 1) := by decide +kernel
theorem dX12_circuit_20 : decode cX12_circuit 20 = .ok (.invokestatic 268, 3) := by decide +kernel
theorem dX12_circuit_23 : decode cX12_circuit 23 = .ok (.ifCond .eq 17, 3) := by decide +kernel
theorem dX12_circuit_26 : decode cX12_circuit 26 = .ok (.aload_n 0, 1) := by decide +kernel
theorem dX12_circuit_27 : decode cX12_circuit 27 = .ok (.getfield 158, 3) := by decide +kernel
theorem dX12_circuit_30 : decode cX12_circuit 30 = .ok (.bipush 16, 2) := by decide +kernel
theorem dX12_circuit_32 : decode cX12_circuit 32 = .ok (.iload_n 1, 1) := by decide +kernel
theorem dX12_circuit_33 : decode cX12_circuit 33 = .ok (.imul, 1) := by decide +kernel
theorem dX12_circuit_34 : decode cX12_circuit 34 = .ok (.iload_n 2, 1) := by decide +kernel
theorem dX12_circuit_35 : decode cX12_circuit 35 = .ok (.iadd, 1) := by decide +kernel
theorem dX12_circuit_36 : decode cX12_circuit 36 = .ok (.iaload, 1) := by decide +kernel
theorem dX12_circuit_37 : decode cX12_circuit 37 = .ok (.goto 5, 3) := by decide +kernel
theorem dX12_circuit_40 : decode cX12_circuit 40 = .ok (.bipush (-2), 2) := by decide +kernel
theorem dX12_circuit_42 : decode cX12_circuit 42 = .ok (.ireturn, 1) := by decide +kernel
theorem dX12_speech_0 : decode cX12_speech 0 = .ok (.iload_n 1, 1) := by decide +kernel
theorem dX12_speech_1 : decode cX12_speech 1 = .ok (.i2l, 1) := by decide +kernel
theorem dX12_speech_2 : decode cX12_speech 2 = .ok (.lconst 0, 1) := by decide +kernel
theorem dX12_speech_3 : decode cX12_speech 3 = .ok (.lconst 1, 1) := by decide +kernel
theorem dX12_speech_4 : decode cX12_speech 4 = .ok (.invokestatic 268, 3) := by decide +kernel
theorem dX12_speech_7 : decode cX12_speech 7 = .ok (.ifCond .eq 33, 3) := by decide +kernel
theorem dX12_speech_10 : decode cX12_speech 10 = .ok (.iload_n 2, 1) := by decide +kernel
theorem dX12_speech_11 : decode cX12_speech 11 = .ok (.i2l, 1) := by decide +kernel
theorem dX12_speech_12 : decode cX12_speech 12 = .ok (.lconst 0, 1) := by decide +kernel
theorem dX12_speech_13 : decode cX12_speech 13 = .ok (.aload_n 0, 1) := by decide +kernel
theorem dX12_speech_14 : decode cX12_speech 14 = .ok (.getfield 255, 3) := by decide +kernel
theorem dX12_speech_17 : decode cX12_speech 17 = .ok (.iconst 1, 1) := by decide +kernel
theorem dX12_speech_18 : decode cX12_speech 18 = .ok (.isub, 1) := by decide +kernel
theorem dX12_speech_19 : decode cX12_speech 19 = .ok (.i2l, 1) := by decide +kernel
theorem dX12_speech_20 : decode cX12_speech 20 = .ok (.invokestatic 268, 3) := by decide +kernel
theorem dX12_speech_23 : decode cX12_speech 23 = .ok (.ifCond .eq 17, 3) := by decide +kernel
theorem dX12_speech_26 : decode cX12_speech 26 = .ok (.aload_n 0, 1) := by decide +kernel
theorem dX12_speech_27 : decode cX12_speech 27 = .ok (.getfield 234, 3) := by decide +kernel
theorem dX12_speech_30 : decode cX12_speech 30 = .ok (.bipush 16, 2) := by decide +kernel
theorem dX12_speech_32 : decode cX12_speech 32 = .ok (.iload_n 1, 1) := by decide +kernel
theorem dX12_speech_33 : decode cX12_speech 33 = .ok (.imul, 1) := by decide +kernel
theorem dX12_speech_34 : decode cX12_speech 34 = .ok (.iload_n 2, 1) := by decide +kernel
theorem dX12_speech_35 : decode cX12_speech 35 = .ok (.iadd, 1) := by decide +kernel
theorem dX12_speech_36 : decode cX12_speech 36 = .ok (.iaload, 1) := by decide +kernel
theorem dX12_speech_37 : decode cX12_speech 37 = .ok (.goto 5, 3) := by decide +kernel
theorem dX12_speech_40 : decode cX12_speech 40 = .ok (.bipush (-2), 2) := by decide +kernel
theorem dX12_speech_42 : decode cX12_speech 42 = .ok (.ireturn, 1) := by decide +kernel
theorem dX12_group_0 : decode cX12_group 0 = .ok (.iload_n 1, 1) := by decide +kernel
theorem dX12_group_1 : decode cX12_group 1 = .ok (.i2l, 1) := by decide +kernel
theorem dX12_group_2 : decode cX12_group 2 = .ok (.lconst 0, 1) := by decide +kernel
theorem dX12_group_3 : decode cX12_group 3 = .ok (.lconst 1, 1) := by decide +kernel
theorem dX12_group_4 : decode cX12_group 4 = .ok (.invokestatic 268, 3) := by decide +kernel
theorem dX12_group_7 : decode cX12_group 7 = .ok (.ifCond .eq 25, 3) := by decide +kernel
theorem dX12_group_10 : decode cX12_group 10 = .ok (.iload_n 2, 1) := by decide +kernel
theorem dX12_group_11 : decode cX12_group 11 = .ok (.i2l, 1) := by decide +kernel
theorem dX12_group_12 : decode cX12_group 12 = .ok (.lconst 0, 1) := by decide +kernel
theorem dX12_group_13 : decode cX12_group 13 = .ok (.ldc2_w 281, 3) := by decide +kernel
theorem dX12_group_16 : decode cX12_group 16 = .ok (.invokestatic 268, 3) := by decide +kernel
theorem dX12_group_19 : decode cX12_group 19 = .ok (.ifCond .eq 13, 3) := by decide +kernel
theorem dX12_group_22 : decode cX12_group 22 = .ok (.iload_n 3, 1) := by decide +kernel
theorem dX12_group_23 : decode cX12_group 23 = .ok (.i2l, 1) := by decide +kernel
theorem dX12_group_24 : decode cX12_group 24 = .ok (.lconst 0, 1) := by decide +kernel
theorem dX12_group_25 : decode cX12_group 25 = .ok (.lconst 1, 1) := by decide +kernel
theorem dX12_group_26 : decode cX12_group 26 = .ok (.invokestatic 268, 3) := by decide +kernel
theorem dX12_group_29 : decode cX12_group 29 = .ok (.ifCond .ne 6, 3) := by decide +kernel
theorem dX12_group_32 : decode cX12_group 32 = .ok (.bipush (-2), 2) := by decide +kernel
theorem dX12_group_34 : decode cX12_group 34 = .ok (.ireturn, 1) := by decide +kernel
theorem dX12_group_35 : decode cX12_group 35 = .ok (.iload_n 3, 1) := by decide +kernel
theorem dX12_group_36 : decode cX12_group 36 = .ok (.ifCond .ne 16, 3) := by decide +kernel
theorem dX12_group_39 : decode cX12_group 39 = .ok (.aload_n 0, 1) := by decide +kernel
theorem dX12_group_40 : decode cX12_group 40 = .ok (.getfield 155, 3) := by decide +kernel
theorem dX12_group_43 : decode cX12_group 43 = .ok (.iconst 3, 1) := by decide +kernel
theorem dX12_group_44 : decode cX12_group 44 = .ok (.iload_n 1, 1) := by decide +kernel
theorem dX12_group_45 : decode cX12_group 45 = .ok (.imul, 1) := by decide +kernel
theorem dX12_group_46 : decode cX12_group 46 = .ok (.iload_n 2, 1) := by decide +kernel
theorem dX12_group_47 : decode cX12_group 47 = .ok (.iadd, 1) := by decide +kernel
theorem dX12_group_48 : decode cX12_group 48 = .ok (.iaload, 1) := by decide +kernel
theorem dX12_group_49 : decode cX12_group 49 = .ok (.goto 13, 3) := by decide +kernel
theorem dX12_group_52 : decode cX12_group 52 = .ok (.aload_n 0, 1) := by decide +kernel
theorem dX12_group_53 : decode cX12_group 53 = .ok (.getfield 146, 3) := by decide +kernel
theorem dX12_group_56 : decode cX12_group 56 = .ok (.iconst 3, 1) := by decide +kernel
theorem dX12_group_57 : decode cX12_group 57 = .ok (.iload_n 1, 1) := by decide +kernel
theorem dX12_group_58 : decode cX12_group 58 = .ok (.imul, 1) := by decide +kernel
theorem dX12_group_59 : decode cX12_group 59 = .ok (.iload_n 2, 1) := by decide +kernel
theorem dX12_group_60 : decode cX12_group 60 = .ok (.iadd, 1) := by decide +kernel
theorem dX12_group_61 : decode cX12_group 61 = .ok (.iaload, 1) := by decide +kernel
theorem dX12_group_62 : decode cX12_group 62 = .ok (.ireturn, 1) := by decide +kernel
theorem dX12_room_0 : decode cX12_room 0 = .ok (.iload_n 1, 1) := by decide +kernel
theorem dX12_room_1 : decode cX12_room 1 = .ok (.i2l, 1) := by decide +kernel
theorem dX12_room_2 : decode cX12_room 2 = .ok (.lconst 0, 1) := by decide +kernel
theorem dX12_room_3 : decode cX12_room 3 = .ok (.lconst 1, 1) := by decide +kernel
theorem dX12_room_4 : decode cX12_room 4 = .ok (.invokestatic 268, 3) := by decide +kernel
theorem dX12_room_7 : decode cX12_room 7 = .ok (.ifCond .eq 22, 3) := by decide +kernel
theorem dX12_room_10 : decode cX12_room 10 = .ok (.iload_n 2, 1) := by decide +kernel
theorem dX12_room_11 : decode cX12_room 11 = .ok (.i2l, 1) := by decide +kernel
theorem dX12_room_12 : decode cX12_room 12 = .ok (.lconst 0, 1) := by decide +kernel
theorem dX12_room_13 : decode cX12_room 13 = .ok (.lconst 1, 1) := by decide +kernel
theorem dX12_room_14 : decode cX12_room 14 = .ok (.invokestatic 268, 3) := by decide +kernel
theorem dX12_room_17 : decode cX12_room 17 = .ok (.ifCond .eq 12, 3) := by decide +kernel
theorem dX12_room_20 : decode cX12_room 20 = .ok (.aload_n 0, 1) := by decide +kernel
theorem dX12_room_21 : decode cX12_room 21 = .ok (.iload_n 1, 1) := by decide +kernel
theorem dX12_room_22 : decode cX12_room 22 = .ok (.iload_n 2, 1) := by decide +kernel
theorem dX12_room_23 : decode cX12_room 23 = .ok (.invokevirtual 376, 3) := by decide +kernel
theorem dX12_room_26 : decode cX12_room 26 = .ok (.goto 5, 3) := by decide +kernel
theorem dX12_room_29 : decode cX12_room 29 = .ok (.bipush (-2), 2) := by decide +kernel
theorem dX12_room_31 : decode cX12_room 31 = .ok (.ireturn, 1) := by decide +kernel
theorem dX12_link_0 : decode cX12_link 0 = .ok (.iload_n 1, 1) := by decide +kernel
theorem dX12_link_1 : decode cX12_link 1 = .ok (.i2l, 1) := by decide +kernel
theorem dX12_link_2 : decode cX12_link 2 = .ok (.lconst 0, 1) := by decide +kernel
theorem dX12_link_3 : decode cX12_link 3 = .ok (.lconst 1, 1) := by decide +kernel
theorem dX12_link_4 : decode cX12_link 4 = .ok (.invokestatic 268, 3) := by decide +kernel
theorem dX12_link_7 : decode cX12_link 7 = .ok (.ifCond .eq 15, 3) := by decide +kernel
theorem dX12_link_10 : decode cX12_link 10 = .ok (.iload_n 2, 1) := by decide +kernel
theorem dX12_link_11 : decode cX12_link 11 = .ok (.i2l, 1) := by decide +kernel
theorem dX12_link_12 : decode cX12_link 12 = .ok (.lconst 0, 1) := by decide +kernel
theorem dX12_link_13 : decode cX12_link 13 = .ok (.ldc2_w 513, 3) := by decide +kernel
theorem dX12_link_16 : decode cX12_link 16 = .ok (.invokestatic 268, 3) := by decide +kernel
theorem dX12_link_19 : decode cX12_link 19 = .ok (.ifCond .ne 6, 3) := by decide +kernel
theorem dX12_link_22 : decode cX12_link 22 = .ok (.bipush (-2), 2) := by decide +kernel
theorem dX12_link_24 : decode cX12_link 24 = .ok (.ireturn, 1) := by decide +kernel
theorem dX12_link_25 : decode cX12_link 25 = .ok (.iload_n 1, 1) := by decide +kernel
theorem dX12_link_26 : decode cX12_link 26 = .ok (.istore_n 3, 1) := by decide +kernel
theorem dX12_link_27 : decode cX12_link 27 = .ok (.iload_n 2, 1) := by decide +kernel
theorem dX12_link_28 : decode cX12_link 28 = .ok (.ifCond .ne 12, 3) := by decide +kernel
theorem dX12_link_31 : decode cX12_link 31 = .ok (.aload_n 0, 1) := by decide +kernel
theorem dX12_link_32 : decode cX12_link 32 = .ok (.getfield 173, 3) := by decide +kernel
theorem dX12_link_35 : decode cX12_link 35 = .ok (.iload_n 3, 1) := by decide +kernel
theorem dX12_link_36 : decode cX12_link 36 = .ok (.iaload, 1) := by decide +kernel
theorem dX12_link_37 : decode cX12_link 37 = .ok (.goto 79, 3) := by decide +kernel
theorem dX12_link_40 : decode cX12_link 40 = .ok (.iload_n 2, 1) := by decide +kernel
theorem dX12_link_41 : decode cX12_link 41 = .ok (.iconst 1, 1) := by decide +kernel
theorem dX12_link_42 : decode cX12_link 42 = .ok (.if_icmp .ne 12, 3) := by decide +kernel
theorem dX12_link_45 : decode cX12_link 45 = .ok (.aload_n 0, 1) := by decide +kernel
theorem dX12_link_46 : decode cX12_link 46 = .ok (.getfield 176, 3) := by decide +kernel
theorem dX12_link_49 : decode cX12_link 49 = .ok (.iload_n 3, 1) := by decide +kernel
theorem dX12_link_50 : decode cX12_link 50 = .ok (.iaload, 1) := by decide +kernel
theorem dX12_link_51 : decode cX12_link 51 = .ok (.goto 65, 3) := by decide +kernel
theorem dX12_link_54 : decode cX12_link 54 = .ok (.iload_n 2, 1) := by decide +kernel
theorem dX12_link_55 : decode cX12_link 55 = .ok (.iconst 2, 1) := by decide +kernel
theorem dX12_link_56 : decode cX12_link 56 = .ok (.if_icmp .ne 12, 3) := by decide +kernel
theorem dX12_link_59 : decode cX12_link 59 = .ok (.aload_n 0, 1) := by decide +kernel
theorem dX12_link_60 : decode cX12_link 60 = .ok (.getfield 179, 3) := by decide +kernel
theorem dX12_link_63 : decode cX12_link 63 = .ok (.iload_n 3, 1) := by decide +kernel
theorem dX12_link_64 : decode cX12_link 64 = .ok (.iaload, 1) := by decide +kernel
theorem dX12_link_65 : decode cX12_link 65 = .ok (.goto 51, 3) := by decide +kernel
theorem dX12_link_68 : decode cX12_link 68 = .ok (.iload_n 2, 1) := by decide +kernel
theorem dX12_link_69 : decode cX12_link 69 = .ok (.iconst 3, 1) := by decide +kernel
theorem dX12_link_70 : decode cX12_link 70 = .ok (.if_icmp .ne 12, 3) := by decide +kernel
theorem dX12_link_73 : decode cX12_link 73 = .ok (.aload_n 0, 1) := by decide +kernel
theorem dX12_link_74 : decode cX12_link 74 = .ok (.getfield 185, 3) := by decide +kernel
theorem dX12_link_77 : decode cX12_link 77 = .ok (.iload_n 3, 1) := by decide +kernel
theorem dX12_link_78 : decode cX12_link 78 = .ok (.iaload, 1) := by decide +kernel
theorem dX12_link_79 : decode cX12_link 79 = .ok (.goto 37, 3) := by decide +kernel
theorem dX12_link_82 : decode cX12_link 82 = .ok (.iload_n 2, 1) := by decide +kernel
theorem dX12_link_83 : decode cX12_link 83 = .ok (.iconst 4, 1) := by decide +kernel
theorem dX12_link_84 : decode cX12_link 84 = .ok (.if_icmp .ne 12, 3) := by decide +kernel
theorem dX12_link_87 : decode cX12_link 87 = .ok (.aload_n 0, 1) := by decide +kernel
theorem dX12_link_88 : decode cX12_link 88 = .ok (.getfield 188, 3) := by decide +kernel
theorem dX12_link_91 : decode cX12_link 91 = .ok (.iload_n 3, 1) := by decide +kernel
theorem dX12_link_92 : decode cX12_link 92 = .ok (.iaload, 1) := by decide +kernel
theorem dX12_link_93 : decode cX12_link 93 = .ok (.goto 23, 3) := by decide +kernel
theorem dX12_link_96 : decode cX12_link 96 = .ok (.iload_n 2, 1) := by decide +kernel
theorem dX12_link_97 : decode cX12_link 97 = .ok (.iconst 5, 1) := by decide +kernel
theorem dX12_link_98 : decode cX12_link 98 = .ok (.if_icmp .ne 12, 3) := by decide +kernel
theorem dX12_link_101 : decode cX12_link 101 = .ok (.aload_n 0, 1) := by decide +kernel
theorem dX12_link_102 : decode cX12_link 102 = .ok (.getfield 191, 3) := by decide +kernel
theorem dX12_link_105 : decode cX12_link 105 = .ok (.iload_n 3, 1) := by decide +kernel
theorem dX12_link_106 : decode cX12_link 106 = .ok (.iaload, 1) := by decide +kernel
theorem dX12_link_107 : decode cX12_link 107 = .ok (.goto 9, 3) := by decide +kernel
theorem dX12_link_110 : decode cX12_link 110 = .ok (.aload_n 0, 1) := by decide +kernel
theorem dX12_link_111 : decode cX12_link 111 = .ok (.getfield 194, 3) := by decide +kernel
theorem dX12_link_114 : decode cX12_link 114 = .ok (.iload_n 3, 1) := by decide +kernel
theorem dX12_link_115 : decode cX12_link 115 = .ok (.iaload, 1) := by decide +kernel
theorem dX12_link_116 : decode cX12_link 116 = .ok (.ireturn, 1) := by decide +kernel
theorem dX12_bit_0 : decode cX12_bit 0 = .ok (.iload_n 1, 1) := by decide +kernel
theorem dX12_bit_1 : decode cX12_bit 1 = .ok (.i2l, 1) := by decide +kernel
theorem dX12_bit_2 : decode cX12_bit 2 = .ok (.lconst 0, 1) := by decide +kernel
theorem dX12_bit_3 : decode cX12_bit 3 = .ok (.lconst 1, 1) := by decide +kernel
theorem dX12_bit_4 : decode cX12_bit 4 = .ok (.invokestatic 268, 3) := by decide +kernel
theorem dX12_bit_7 : decode cX12_bit 7 = .ok (.ifCond .ne 6, 3) := by decide +kernel
theorem dX12_bit_10 : decode cX12_bit 10 = .ok (.bipush (-2), 2) := by decide +kernel
theorem dX12_bit_12 : decode cX12_bit 12 = .ok (.ireturn, 1) := by decide +kernel
theorem dX12_bit_13 : decode cX12_bit 13 = .ok (.iload_n 2, 1) := by decide +kernel
theorem dX12_bit_14 : decode cX12_bit 14 = .ok (.i2l, 1) := by decide +kernel
theorem dX12_bit_15 : decode cX12_bit 15 = .ok (.aload_n 0, 1) := by decide +kernel
theorem dX12_bit_16 : decode cX12_bit 16 = .ok (.getfield 285, 3) := by decide +kernel
theorem dX12_bit_19 : decode cX12_bit 19 = .ok (.bipush 64, 2) := by decide +kernel
theorem dX12_bit_21 : decode cX12_bit 21 = .ok (.if_icmp .ge 7, 3) := by decide +kernel
theorem dX12_bit_24 : decode cX12_bit 24 = .ok (.lconst 0, 1) := by decide +kernel
theorem dX12_bit_25 : decode cX12_bit 25 = .ok (.goto 11, 3) := by decide +kernel
theorem dX12_bit_28 : decode cX12_bit 28 = .ok (.aload_n 0, 1) := by decide +kernel
theorem dX12_bit_29 : decode cX12_bit 29 = .ok (.getfield 285, 3) := by decide +kernel
theorem dX12_bit_32 : decode cX12_bit 32 = .ok (.bipush 64, 2) := by decide +kernel
theorem dX12_bit_34 : decode cX12_bit 34 = .ok (.isub, 1) := by decide +kernel
theorem dX12_bit_35 : decode cX12_bit 35 = .ok (.i2l, 1) := by decide +kernel
theorem dX12_bit_36 : decode cX12_bit 36 = .ok (.aload_n 0, 1) := by decide +kernel
theorem dX12_bit_37 : decode cX12_bit 37 = .ok (.getfield 285, 3) := by decide +kernel
theorem dX12_bit_40 : decode cX12_bit 40 = .ok (.iconst 1, 1) := by decide +kernel
theorem dX12_bit_41 : decode cX12_bit 41 = .ok (.isub, 1) := by decide +kernel
theorem dX12_bit_42 : decode cX12_bit 42 = .ok (.i2l, 1) := by decide +kernel
theorem dX12_bit_43 : decode cX12_bit 43 = .ok (.invokestatic 268, 3) := by decide +kernel
theorem dX12_bit_46 : decode cX12_bit 46 = .ok (.ifCond .ne 5, 3) := by decide +kernel
theorem dX12_bit_49 : decode cX12_bit 49 = .ok (.iconst (-1), 1) := by decide +kernel
theorem dX12_bit_50 : decode cX12_bit 50 = .ok (.ireturn, 1) := by decide +kernel
theorem dX12_bit_51 : decode cX12_bit 51 = .ok (.bipush 64, 2) := by decide +kernel
theorem dX12_bit_53 : decode cX12_bit 53 = .ok (.iload_n 1, 1) := by decide +kernel
theorem dX12_bit_54 : decode cX12_bit 54 = .ok (.imul, 1) := by decide +kernel
theorem dX12_bit_55 : decode cX12_bit 55 = .ok (.iload_n 2, 1) := by decide +kernel
theorem dX12_bit_56 : decode cX12_bit 56 = .ok (.bipush 64, 2) := by decide +kernel
theorem dX12_bit_58 : decode cX12_bit 58 = .ok (.irem, 1) := by decide +kernel
theorem dX12_bit_59 : decode cX12_bit 59 = .ok (.iadd, 1) := by decide +kernel
theorem dX12_bit_60 : decode cX12_bit 60 = .ok (.istore 4, 2) := by decide +kernel
theorem dX12_bit_62 : decode cX12_bit 62 = .ok (.iload_n 3, 1) := by decide +kernel
theorem dX12_bit_63 : decode cX12_bit 63 = .ok (.i2l, 1) := by decide +kernel
theorem dX12_bit_64 : decode cX12_bit 64 = .ok (.lconst 0, 1) := by decide +kernel
theorem dX12_bit_65 : decode cX12_bit 65 = .ok (.aload_n 0, 1) := by decide +kernel
theorem dX12_bit_66 : decode cX12_bit 66 = .ok (.getfield 207, 3) := by decide +kernel
theorem dX12_bit_69 : decode cX12_bit 69 = .ok (.iload 4, 2) := by decide +kernel
theorem dX12_bit_71 : decode cX12_bit 71 = .ok (.iaload, 1) := by decide +kernel
theorem dX12_bit_72 : decode cX12_bit 72 = .ok (.iconst 1, 1) := by decide +kernel
theorem dX12_bit_73 : decode cX12_bit 73 = .ok (.isub, 1) := by decide +kernel
theorem dX12_bit_74 : decode cX12_bit 74 = .ok (.i2l, 1) := by decide +kernel
theorem dX12_bit_75 : decode cX12_bit 75 = .ok (.invokestatic 268, 3) := by decide +kernel
theorem dX12_bit_78 : decode cX12_bit 78 = .ok (.ifCond .eq 19, 3) := by decide +kernel
theorem dX12_bit_81 : decode cX12_bit 81 = .ok (.aload_n 0, 1) := by decide +kernel
theorem dX12_bit_82 : decode cX12_bit 82 = .ok (.getfield 204, 3) := by decide +kernel
theorem dX12_bit_85 : decode cX12_bit 85 = .ok (.sipush 320, 3) := by decide +kernel
theorem dX12_bit_88 : decode cX12_bit 88 = .ok (.iload 4, 2) := by decide +kernel
theorem dX12_bit_90 : decode cX12_bit 90 = .ok (.imul, 1) := by decide +kernel
theorem dX12_bit_91 : decode cX12_bit 91 = .ok (.iload_n 3, 1) := by decide +kernel
theorem dX12_bit_92 : decode cX12_bit 92 = .ok (.iadd, 1) := by decide +kernel
theorem dX12_bit_93 : decode cX12_bit 93 = .ok (.iaload, 1) := by decide +kernel
theorem dX12_bit_94 : decode cX12_bit 94 = .ok (.goto 4, 3) := by decide +kernel
theorem dX12_bit_97 : decode cX12_bit 97 = .ok (.iconst (-1), 1) := by decide +kernel
theorem dX12_bit_98 : decode cX12_bit 98 = .ok (.ireturn, 1) := by decide +kernel
theorem dX12_record_0 : decode cX12_record 0 = .ok (.iload_n 2, 1) := by decide +kernel
theorem dX12_record_1 : decode cX12_record 1 = .ok (.i2l, 1) := by decide +kernel
theorem dX12_record_2 : decode cX12_record 2 = .ok (.lconst 0, 1) := by decide +kernel
theorem dX12_record_3 : decode cX12_record 3 = .ok (.ldc2_w 277, 3) := by decide +kernel
theorem dX12_record_6 : decode cX12_record 6 = .ok (.invokestatic 268, 3) := by decide +kernel
theorem dX12_record_9 : decode cX12_record 9 = .ok (.ifCond .ne 6, 3) := by decide +kernel
theorem dX12_record_12 : decode cX12_record 12 = .ok (.bipush (-2), 2) := by decide +kernel
theorem dX12_record_14 : decode cX12_record 14 = .ok (.ireturn, 1) := by decide +kernel
theorem dX12_record_15 : decode cX12_record 15 = .ok (.iload_n 1, 1) := by decide +kernel
theorem dX12_record_16 : decode cX12_record 16 = .ok (.i2l, 1) := by decide +kernel
theorem dX12_record_17 : decode cX12_record 17 = .ok (.aload_n 0, 1) := by decide +kernel
theorem dX12_record_18 : decode cX12_record 18 = .ok (.getfield 486, 3) := by decide +kernel
theorem dX12_record_21 : decode cX12_record 21 = .ok (.sipush 300, 3) := by decide +kernel
theorem dX12_record_24 : decode cX12_record 24 = .ok (.if_icmp .ge 7, 3) := by decide +kernel
theorem dX12_record_27 : decode cX12_record 27 = .ok (.lconst 0, 1) := by decide +kernel
theorem dX12_record_28 : decode cX12_record 28 = .ok (.goto 12, 3) := by decide +kernel
theorem dX12_record_31 : decode cX12_record 31 = .ok (.aload_n 0, 1) := by decide +kernel
theorem dX12_record_32 : decode cX12_record 32 = .ok (.getfield 486, 3) := by decide +kernel
theorem dX12_record_35 : decode cX12_record 35 = .ok (.sipush 300, 3) := by decide +kernel
theorem dX12_record_38 : decode cX12_record 38 = .ok (.isub, 1) := by decide +kernel
theorem dX12_record_39 : decode cX12_record 39 = .ok (.i2l, 1) := by decide +kernel
theorem dX12_record_40 : decode cX12_record 40 = .ok (.aload_n 0, 1) := by decide +kernel
theorem dX12_record_41 : decode cX12_record 41 = .ok (.getfield 486, 3) := by decide +kernel
theorem dX12_record_44 : decode cX12_record 44 = .ok (.iconst 1, 1) := by decide +kernel
theorem dX12_record_45 : decode cX12_record 45 = .ok (.isub, 1) := by decide +kernel
theorem dX12_record_46 : decode cX12_record 46 = .ok (.i2l, 1) := by decide +kernel
theorem dX12_record_47 : decode cX12_record 47 = .ok (.invokestatic 268, 3) := by decide +kernel
theorem dX12_record_50 : decode cX12_record 50 = .ok (.ifCond .eq 20, 3) := by decide +kernel
theorem dX12_record_53 : decode cX12_record 53 = .ok (.aload_n 0, 1) := by decide +kernel
theorem dX12_record_54 : decode cX12_record 54 = .ok (.getfield 252, 3) := by decide +kernel
theorem dX12_record_57 : decode cX12_record 57 = .ok (.iconst 5, 1) := by decide +kernel
theorem dX12_record_58 : decode cX12_record 58 = .ok (.iload_n 1, 1) := by decide +kernel
theorem dX12_record_59 : decode cX12_record 59 = .ok (.sipush 300, 3) := by decide +kernel
theorem dX12_record_62 : decode cX12_record 62 = .ok (.irem, 1) := by decide +kernel
theorem dX12_record_63 : decode cX12_record 63 = .ok (.imul, 1) := by decide +kernel
theorem dX12_record_64 : decode cX12_record 64 = .ok (.iload_n 2, 1) := by decide +kernel
theorem dX12_record_65 : decode cX12_record 65 = .ok (.iadd, 1) := by decide +kernel
theorem dX12_record_66 : decode cX12_record 66 = .ok (.iaload, 1) := by decide +kernel
theorem dX12_record_67 : decode cX12_record 67 = .ok (.goto 4, 3) := by decide +kernel
theorem dX12_record_70 : decode cX12_record 70 = .ok (.iconst (-1), 1) := by decide +kernel
theorem dX12_record_71 : decode cX12_record 71 = .ok (.ireturn, 1) := by decide +kernel
theorem dX12_told_0 : decode cX12_told 0 = .ok (.iconst 0, 1) := by decide +kernel
theorem dX12_told_1 : decode cX12_told 1 = .ok (.istore_n 2, 1) := by decide +kernel
theorem dX12_told_2 : decode cX12_told 2 = .ok (.iload_n 1, 1) := by decide +kernel
theorem dX12_told_3 : decode cX12_told 3 = .ok (.tableswitch 129 0 4 #[33, 38, 43, 77, 82], 33) := by decide +kernel
theorem dX12_told_36 : decode cX12_told 36 = .ok (.aload_n 0, 1) := by decide +kernel
theorem dX12_told_37 : decode cX12_told 37 = .ok (.getfield 285, 3) := by decide +kernel
theorem dX12_told_40 : decode cX12_told 40 = .ok (.ireturn, 1) := by decide +kernel
theorem dX12_told_41 : decode cX12_told 41 = .ok (.aload_n 0, 1) := by decide +kernel
theorem dX12_told_42 : decode cX12_told 42 = .ok (.getfield 334, 3) := by decide +kernel
theorem dX12_told_45 : decode cX12_told 45 = .ok (.ireturn, 1) := by decide +kernel
theorem dX12_told_46 : decode cX12_told 46 = .ok (.iconst 0, 1) := by decide +kernel
theorem dX12_told_47 : decode cX12_told 47 = .ok (.istore_n 3, 1) := by decide +kernel
theorem dX12_told_48 : decode cX12_told 48 = .ok (.iload_n 3, 1) := by decide +kernel
theorem dX12_told_49 : decode cX12_told 49 = .ok (.bipush 80, 2) := by decide +kernel
theorem dX12_told_51 : decode cX12_told 51 = .ok (.if_icmp .ge 27, 3) := by decide +kernel
theorem dX12_told_54 : decode cX12_told 54 = .ok (.iload_n 2, 1) := by decide +kernel
theorem dX12_told_55 : decode cX12_told 55 = .ok (.aload_n 0, 1) := by decide +kernel
theorem dX12_told_56 : decode cX12_told 56 = .ok (.getfield 95, 3) := by decide +kernel
theorem dX12_told_59 : decode cX12_told 59 = .ok (.iload_n 3, 1) := by decide +kernel
theorem dX12_told_60 : decode cX12_told 60 = .ok (.iaload, 1) := by decide +kernel
theorem dX12_told_61 : decode cX12_told 61 = .ok (.iconst (-1), 1) := by decide +kernel
theorem dX12_told_62 : decode cX12_told 62 = .ok (.if_icmp .ne 7, 3) := by decide +kernel
theorem dX12_told_65 : decode cX12_told 65 = .ok (.iconst 0, 1) := by decide +kernel
theorem dX12_told_66 : decode cX12_told 66 = .ok (.goto 4, 3) := by decide +kernel
theorem dX12_told_69 : decode cX12_told 69 = .ok (.iconst 1, 1) := by decide +kernel
theorem dX12_told_70 : decode cX12_told 70 = .ok (.iadd, 1) := by decide +kernel
theorem dX12_told_71 : decode cX12_told 71 = .ok (.istore_n 2, 1) := by decide +kernel
theorem dX12_told_72 : decode cX12_told 72 = .ok (.iinc 3 1, 3) := by decide +kernel
theorem dX12_told_75 : decode cX12_told 75 = .ok (.goto (-27), 3) := by decide +kernel
theorem dX12_told_78 : decode cX12_told 78 = .ok (.iload_n 2, 1) := by decide +kernel
theorem dX12_told_79 : decode cX12_told 79 = .ok (.ireturn, 1) := by decide +kernel
theorem dX12_told_80 : decode cX12_told 80 = .ok (.aload_n 0, 1) := by decide +kernel
theorem dX12_told_81 : decode cX12_told 81 = .ok (.getfield 486, 3) := by decide +kernel
theorem dX12_told_84 : decode cX12_told 84 = .ok (.ireturn, 1) := by decide +kernel
theorem dX12_told_85 : decode cX12_told 85 = .ok (.iconst 0, 1) := by decide +kernel
theorem dX12_told_86 : decode cX12_told 86 = .ok (.istore_n 3, 1) := by decide +kernel
theorem dX12_told_87 : decode cX12_told 87 = .ok (.iload_n 3, 1) := by decide +kernel
theorem dX12_told_88 : decode cX12_told 88 = .ok (.aload_n 0, 1) := by decide +kernel
theorem dX12_told_89 : decode cX12_told 89 = .ok (.getfield 255, 3) := by decide +kernel
theorem dX12_told_92 : decode cX12_told 92 = .ok (.if_icmp .ge 38, 3) := by decide +kernel
theorem dX12_told_95 : decode cX12_told 95 = .ok (.iload_n 2, 1) := by decide +kernel
theorem dX12_told_96 : decode cX12_told 96 = .ok (.aload_n 0, 1) := by decide +kernel
theorem dX12_told_97 : decode cX12_told 97 = .ok (.getfield 158, 3) := by decide +kernel
theorem dX12_told_100 : decode cX12_told 100 = .ok (.iload_n 3, 1) := by decide +kernel
theorem dX12_told_101 : decode cX12_told 101 = .ok (.iaload, 1) := by decide +kernel
theorem dX12_told_102 : decode cX12_told 102 = .ok (.ifCond .ne 19, 3) := by decide +kernel
theorem dX12_told_105 : decode cX12_told 105 = .ok (.aload_n 0, 1) := by decide +kernel
theorem dX12_told_106 : decode cX12_told 106 = .ok (.getfield 158, 3) := by decide +kernel
theorem dX12_told_109 : decode cX12_told 109 = .ok (.bipush 16, 2) := by decide +kernel
theorem dX12_told_111 : decode cX12_told 111 = .ok (.iload_n 3, 1) := by decide +kernel
theorem dX12_told_112 : decode cX12_told 112 = .ok (.iadd, 1) := by decide +kernel
theorem dX12_told_113 : decode cX12_told 113 = .ok (.iaload, 1) := by decide +kernel
theorem dX12_told_114 : decode cX12_told 114 = .ok (.ifCond .ne 7, 3) := by decide +kernel
theorem dX12_told_117 : decode cX12_told 117 = .ok (.iconst 1, 1) := by decide +kernel
theorem dX12_told_118 : decode cX12_told 118 = .ok (.goto 4, 3) := by decide +kernel
theorem dX12_told_121 : decode cX12_told 121 = .ok (.iconst 0, 1) := by decide +kernel
theorem dX12_told_122 : decode cX12_told 122 = .ok (.iadd, 1) := by decide +kernel
theorem dX12_told_123 : decode cX12_told 123 = .ok (.istore_n 2, 1) := by decide +kernel
theorem dX12_told_124 : decode cX12_told 124 = .ok (.iinc 3 1, 3) := by decide +kernel
theorem dX12_told_127 : decode cX12_told 127 = .ok (.goto (-40), 3) := by decide +kernel
theorem dX12_told_130 : decode cX12_told 130 = .ok (.iload_n 2, 1) := by decide +kernel
theorem dX12_told_131 : decode cX12_told 131 = .ok (.ireturn, 1) := by decide +kernel
theorem dX12_told_132 : decode cX12_told 132 = .ok (.bipush (-2), 2) := by decide +kernel
theorem dX12_told_134 : decode cX12_told 134 = .ok (.ireturn, 1) := by decide +kernel
theorem dL_cell_0 : decode cL_cell 0 = .ok (.iload_n 1, 1) := by decide +kernel
theorem dL_cell_1 : decode cL_cell 1 = .ok (.aload_n 0, 1) := by decide +kernel
theorem dL_cell_2 : decode cL_cell 2 = .ok (.arraylength, 1) := by decide +kernel
theorem dL_cell_3 : decode cL_cell 3 = .ok (.if_icmp .ge 9, 3) := by decide +kernel
theorem dL_cell_6 : decode cL_cell 6 = .ok (.aload_n 0, 1) := by decide +kernel
theorem dL_cell_7 : decode cL_cell 7 = .ok (.iload_n 1, 1) := by decide +kernel
theorem dL_cell_8 : decode cL_cell 8 = .ok (.iaload, 1) := by decide +kernel
theorem dL_cell_9 : decode cL_cell 9 = .ok (.goto 4, 3) := by decide +kernel
theorem dL_cell_12 : decode cL_cell 12 = .ok (.iconst 0, 1) := by decide +kernel
theorem dL_cell_13 : decode cL_cell 13 = .ok (.ireturn, 1) := by decide +kernel
theorem dL_law_0 : decode cL_law 0 = .ok (.new 7, 3) := by decide +kernel
theorem dL_law_3 : decode cL_law 3 = .ok (.dup, 1) := by decide +kernel
theorem dL_law_4 : decode cL_law 4 = .ok (.aload_n 0, 1) := by decide +kernel
theorem dL_law_5 : decode cL_law 5 = .ok (.iconst 0, 1) := by decide +kernel
theorem dL_law_6 : decode cL_law 6 = .ok (.invokestatic 9, 3) := by decide +kernel
theorem dL_law_9 : decode cL_law 9 = .ok (.aload_n 0, 1) := by decide +kernel
theorem dL_law_10 : decode cL_law 10 = .ok (.iconst 1, 1) := by decide +kernel
theorem dL_law_11 : decode cL_law 11 = .ok (.invokestatic 9, 3) := by decide +kernel
theorem dL_law_14 : decode cL_law 14 = .ok (.invokespecial 15, 3) := by decide +kernel
theorem dL_law_17 : decode cL_law 17 = .ok (.astore_n 1, 1) := by decide +kernel
theorem dL_law_18 : decode cL_law 18 = .ok (.new 18, 3) := by decide +kernel
theorem dL_law_21 : decode cL_law 21 = .ok (.dup, 1) := by decide +kernel
theorem dL_law_22 : decode cL_law 22 = .ok (.aload_n 0, 1) := by decide +kernel
theorem dL_law_23 : decode cL_law 23 = .ok (.iconst 0, 1) := by decide +kernel
theorem dL_law_24 : decode cL_law 24 = .ok (.invokestatic 9, 3) := by decide +kernel
theorem dL_law_27 : decode cL_law 27 = .ok (.aload_n 0, 1) := by decide +kernel
theorem dL_law_28 : decode cL_law 28 = .ok (.iconst 1, 1) := by decide +kernel
theorem dL_law_29 : decode cL_law 29 = .ok (.invokestatic 9, 3) := by decide +kernel
theorem dL_law_32 : decode cL_law 32 = .ok (.invokespecial 20, 3) := by decide +kernel
theorem dL_law_35 : decode cL_law 35 = .ok (.astore_n 2, 1) := by decide +kernel
theorem dL_law_36 : decode cL_law 36 = .ok (.iconst 2, 1) := by decide +kernel
theorem dL_law_37 : decode cL_law 37 = .ok (.istore_n 3, 1) := by decide +kernel
theorem dL_law_38 : decode cL_law 38 = .ok (.iload_n 3, 1) := by decide +kernel
theorem dL_law_39 : decode cL_law 39 = .ok (.aload_n 0, 1) := by decide +kernel
theorem dL_law_40 : decode cL_law 40 = .ok (.arraylength, 1) := by decide +kernel
theorem dL_law_41 : decode cL_law 41 = .ok (.bipush 6, 2) := by decide +kernel
theorem dL_law_43 : decode cL_law 43 = .ok (.isub, 1) := by decide +kernel
theorem dL_law_44 : decode cL_law 44 = .ok (.if_icmp .gt 1064, 3) := by decide +kernel
theorem dL_law_47 : decode cL_law 47 = .ok (.aload_n 0, 1) := by decide +kernel
theorem dL_law_48 : decode cL_law 48 = .ok (.iload_n 3, 1) := by decide +kernel
theorem dL_law_49 : decode cL_law 49 = .ok (.iaload, 1) := by decide +kernel
theorem dL_law_50 : decode cL_law 50 = .ok (.bipush 31, 2) := by decide +kernel
theorem dL_law_52 : decode cL_law 52 = .ok (.iand, 1) := by decide +kernel
theorem dL_law_53 : decode cL_law 53 = .ok (.tableswitch 1049 0 25 #[119, 142, 155, 218, 251, 294, 353, 386, 449, 482, 531, 564, 597, 640, 673, 696, 729, 752, 775, 808, 841, 884, 917, 950, 993, 1026], 119) := by decide +kernel
theorem dL_law_172 : decode cL_law 172 = .ok (.aload_n 1, 1) := by decide +kernel
theorem dL_law_173 : decode cL_law 173 = .ok (.aload_n 0, 1) := by decide +kernel
theorem dL_law_174 : decode cL_law 174 = .ok (.iload_n 3, 1) := by decide +kernel
theorem dL_law_175 : decode cL_law 175 = .ok (.iconst 1, 1) := by decide +kernel
theorem dL_law_176 : decode cL_law 176 = .ok (.iadd, 1) := by decide +kernel
theorem dL_law_177 : decode cL_law 177 = .ok (.iaload, 1) := by decide +kernel
theorem dL_law_178 : decode cL_law 178 = .ok (.invokevirtual 21, 3) := by decide +kernel
theorem dL_law_181 : decode cL_law 181 = .ok (.aload_n 2, 1) := by decide +kernel
theorem dL_law_182 : decode cL_law 182 = .ok (.aload_n 0, 1) := by decide +kernel
theorem dL_law_183 : decode cL_law 183 = .ok (.iload_n 3, 1) := by decide +kernel
theorem dL_law_184 : decode cL_law 184 = .ok (.iconst 1, 1) := by decide +kernel
theorem dL_law_185 : decode cL_law 185 = .ok (.iadd, 1) := by decide +kernel
theorem dL_law_186 : decode cL_law 186 = .ok (.iaload, 1) := by decide +kernel
theorem dL_law_187 : decode cL_law 187 = .ok (.invokevirtual 25, 3) := by decide +kernel
theorem dL_law_190 : decode cL_law 190 = .ok (.if_icmp .eq 912, 3) := by decide +kernel
theorem dL_law_193 : decode cL_law 193 = .ok (.iconst 0, 1) := by decide +kernel
theorem dL_law_194 : decode cL_law 194 = .ok (.ireturn, 1) := by decide +kernel
theorem dL_law_195 : decode cL_law 195 = .ok (.aload_n 1, 1) := by decide +kernel
theorem dL_law_196 : decode cL_law 196 = .ok (.invokevirtual 26, 3) := by decide +kernel
theorem dL_law_199 : decode cL_law 199 = .ok (.aload_n 2, 1) := by decide +kernel
theorem dL_law_200 : decode cL_law 200 = .ok (.invokevirtual 30, 3) := by decide +kernel
theorem dL_law_203 : decode cL_law 203 = .ok (.if_icmp .eq 899, 3) := by decide +kernel
theorem dL_law_206 : decode cL_law 206 = .ok (.iconst 0, 1) := by decide +kernel
theorem dL_law_207 : decode cL_law 207 = .ok (.ireturn, 1) := by decide +kernel
theorem dL_law_208 : decode cL_law 208 = .ok (.aload_n 1, 1) := by decide +kernel
theorem dL_law_209 : decode cL_law 209 = .ok (.aload_n 0, 1) := by decide +kernel
theorem dL_law_210 : decode cL_law 210 = .ok (.iload_n 3, 1) := by decide +kernel
theorem dL_law_211 : decode cL_law 211 = .ok (.iconst 1, 1) := by decide +kernel
theorem dL_law_212 : decode cL_law 212 = .ok (.iadd, 1) := by decide +kernel
theorem dL_law_213 : decode cL_law 213 = .ok (.iaload, 1) := by decide +kernel
theorem dL_law_214 : decode cL_law 214 = .ok (.aload_n 0, 1) := by decide +kernel
theorem dL_law_215 : decode cL_law 215 = .ok (.iload_n 3, 1) := by decide +kernel
theorem dL_law_216 : decode cL_law 216 = .ok (.iconst 2, 1) := by decide +kernel
theorem dL_law_217 : decode cL_law 217 = .ok (.iadd, 1) := by decide +kernel
theorem dL_law_218 : decode cL_law 218 = .ok (.iaload, 1) := by decide +kernel
theorem dL_law_219 : decode cL_law 219 = .ok (.aload_n 0, 1) := by decide +kernel
theorem dL_law_220 : decode cL_law 220 = .ok (.iload_n 3, 1) := by decide +kernel
theorem dL_law_221 : decode cL_law 221 = .ok (.iconst 3, 1) := by decide +kernel
theorem dL_law_222 : decode cL_law 222 = .ok (.iadd, 1) := by decide +kernel
theorem dL_law_223 : decode cL_law 223 = .ok (.iaload, 1) := by decide +kernel
theorem dL_law_224 : decode cL_law 224 = .ok (.aload_n 0, 1) := by decide +kernel
theorem dL_law_225 : decode cL_law 225 = .ok (.iload_n 3, 1) := by decide +kernel
theorem dL_law_226 : decode cL_law 226 = .ok (.iconst 4, 1) := by decide +kernel
theorem dL_law_227 : decode cL_law 227 = .ok (.iadd, 1) := by decide +kernel
theorem dL_law_228 : decode cL_law 228 = .ok (.iaload, 1) := by decide +kernel
theorem dL_law_229 : decode cL_law 229 = .ok (.aload_n 0, 1) := by decide +kernel
theorem dL_law_230 : decode cL_law 230 = .ok (.iload_n 3, 1) := by decide +kernel
theorem dL_law_231 : decode cL_law 231 = .ok (.iconst 5, 1) := by decide +kernel
theorem dL_law_232 : decode cL_law 232 = .ok (.iadd, 1) := by decide +kernel
theorem dL_law_233 : decode cL_law 233 = .ok (.iaload, 1) := by decide +kernel
theorem dL_law_234 : decode cL_law 234 = .ok (.invokevirtual 31, 3) := by decide +kernel
theorem dL_law_237 : decode cL_law 237 = .ok (.aload_n 2, 1) := by decide +kernel
theorem dL_law_238 : decode cL_law 238 = .ok (.aload_n 0, 1) := by decide +kernel
theorem dL_law_239 : decode cL_law 239 = .ok (.iload_n 3, 1) := by decide +kernel
theorem dL_law_240 : decode cL_law 240 = .ok (.iconst 1, 1) := by decide +kernel
theorem dL_law_241 : decode cL_law 241 = .ok (.iadd, 1) := by decide +kernel
theorem dL_law_242 : decode cL_law 242 = .ok (.iaload, 1) := by decide +kernel
theorem dL_law_243 : decode cL_law 243 = .ok (.aload_n 0, 1) := by decide +kernel
theorem dL_law_244 : decode cL_law 244 = .ok (.iload_n 3, 1) := by decide +kernel
theorem dL_law_245 : decode cL_law 245 = .ok (.iconst 2, 1) := by decide +kernel
theorem dL_law_246 : decode cL_law 246 = .ok (.iadd, 1) := by decide +kernel
theorem dL_law_247 : decode cL_law 247 = .ok (.iaload, 1) := by decide +kernel
theorem dL_law_248 : decode cL_law 248 = .ok (.aload_n 0, 1) := by decide +kernel
theorem dL_law_249 : decode cL_law 249 = .ok (.iload_n 3, 1) := by decide +kernel
theorem dL_law_250 : decode cL_law 250 = .ok (.iconst 3, 1) := by decide +kernel
theorem dL_law_251 : decode cL_law 251 = .ok (.iadd, 1) := by decide +kernel
theorem dL_law_252 : decode cL_law 252 = .ok (.iaload, 1) := by decide +kernel
theorem dL_law_253 : decode cL_law 253 = .ok (.aload_n 0, 1) := by decide +kernel
theorem dL_law_254 : decode cL_law 254 = .ok (.iload_n 3, 1) := by decide +kernel
theorem dL_law_255 : decode cL_law 255 = .ok (.iconst 4, 1) := by decide +kernel
theorem dL_law_256 : decode cL_law 256 = .ok (.iadd, 1) := by decide +kernel
theorem dL_law_257 : decode cL_law 257 = .ok (.iaload, 1) := by decide +kernel
theorem dL_law_258 : decode cL_law 258 = .ok (.aload_n 0, 1) := by decide +kernel
theorem dL_law_259 : decode cL_law 259 = .ok (.iload_n 3, 1) := by decide +kernel
theorem dL_law_260 : decode cL_law 260 = .ok (.iconst 5, 1) := by decide +kernel
theorem dL_law_261 : decode cL_law 261 = .ok (.iadd, 1) := by decide +kernel
theorem dL_law_262 : decode cL_law 262 = .ok (.iaload, 1) := by decide +kernel
theorem dL_law_263 : decode cL_law 263 = .ok (.invokevirtual 35, 3) := by decide +kernel
theorem dL_law_266 : decode cL_law 266 = .ok (.if_icmp .eq 836, 3) := by decide +kernel
theorem dL_law_269 : decode cL_law 269 = .ok (.iconst 0, 1) := by decide +kernel
theorem dL_law_270 : decode cL_law 270 = .ok (.ireturn, 1) := by decide +kernel
theorem dL_law_271 : decode cL_law 271 = .ok (.aload_n 1, 1) := by decide +kernel
theorem dL_law_272 : decode cL_law 272 = .ok (.aload_n 0, 1) := by decide +kernel
theorem dL_law_273 : decode cL_law 273 = .ok (.iload_n 3, 1) := by decide +kernel
theorem dL_law_274 : decode cL_law 274 = .ok (.iconst 1, 1) := by decide +kernel
theorem dL_law_275 : decode cL_law 275 = .ok (.iadd, 1) := by decide +kernel
theorem dL_law_276 : decode cL_law 276 = .ok (.iaload, 1) := by decide +kernel
theorem dL_law_277 : decode cL_law 277 = .ok (.aload_n 0, 1) := by decide +kernel
theorem dL_law_278 : decode cL_law 278 = .ok (.iload_n 3, 1) := by decide +kernel
theorem dL_law_279 : decode cL_law 279 = .ok (.iconst 2, 1) := by decide +kernel
theorem dL_law_280 : decode cL_law 280 = .ok (.iadd, 1) := by decide +kernel
theorem dL_law_281 : decode cL_law 281 = .ok (.iaload, 1) := by decide +kernel
theorem dL_law_282 : decode cL_law 282 = .ok (.invokevirtual 36, 3) := by decide +kernel
theorem dL_law_285 : decode cL_law 285 = .ok (.aload_n 2, 1) := by decide +kernel
theorem dL_law_286 : decode cL_law 286 = .ok (.aload_n 0, 1) := by decide +kernel
theorem dL_law_287 : decode cL_law 287 = .ok (.iload_n 3, 1) := by decide +kernel
theorem dL_law_288 : decode cL_law 288 = .ok (.iconst 1, 1) := by decide +kernel
theorem dL_law_289 : decode cL_law 289 = .ok (.iadd, 1) := by decide +kernel
theorem dL_law_290 : decode cL_law 290 = .ok (.iaload, 1) := by decide +kernel
theorem dL_law_291 : decode cL_law 291 = .ok (.aload_n 0, 1) := by decide +kernel
theorem dL_law_292 : decode cL_law 292 = .ok (.iload_n 3, 1) := by decide +kernel
theorem dL_law_293 : decode cL_law 293 = .ok (.iconst 2, 1) := by decide +kernel
theorem dL_law_294 : decode cL_law 294 = .ok (.iadd, 1) := by decide +kernel
theorem dL_law_295 : decode cL_law 295 = .ok (.iaload, 1) := by decide +kernel
theorem dL_law_296 : decode cL_law 296 = .ok (.invokevirtual 40, 3) := by decide +kernel
theorem dL_law_299 : decode cL_law 299 = .ok (.if_icmp .eq 803, 3) := by decide +kernel
theorem dL_law_302 : decode cL_law 302 = .ok (.iconst 0, 1) := by decide +kernel
theorem dL_law_303 : decode cL_law 303 = .ok (.ireturn, 1) := by decide +kernel
theorem dL_law_304 : decode cL_law 304 = .ok (.aload_n 1, 1) := by decide +kernel
theorem dL_law_305 : decode cL_law 305 = .ok (.aload_n 0, 1) := by decide +kernel
theorem dL_law_306 : decode cL_law 306 = .ok (.iload_n 3, 1) := by decide +kernel
theorem dL_law_307 : decode cL_law 307 = .ok (.iconst 1, 1) := by decide +kernel
theorem dL_law_308 : decode cL_law 308 = .ok (.iadd, 1) := by decide +kernel
theorem dL_law_309 : decode cL_law 309 = .ok (.iaload, 1) := by decide +kernel
theorem dL_law_310 : decode cL_law 310 = .ok (.aload_n 0, 1) := by decide +kernel
theorem dL_law_311 : decode cL_law 311 = .ok (.iload_n 3, 1) := by decide +kernel
theorem dL_law_312 : decode cL_law 312 = .ok (.iconst 2, 1) := by decide +kernel
theorem dL_law_313 : decode cL_law 313 = .ok (.iadd, 1) := by decide +kernel
theorem dL_law_314 : decode cL_law 314 = .ok (.iaload, 1) := by decide +kernel
theorem dL_law_315 : decode cL_law 315 = .ok (.aload_n 0, 1) := by decide +kernel
theorem dL_law_316 : decode cL_law 316 = .ok (.iload_n 3, 1) := by decide +kernel
theorem dL_law_317 : decode cL_law 317 = .ok (.iconst 3, 1) := by decide +kernel
theorem dL_law_318 : decode cL_law 318 = .ok (.iadd, 1) := by decide +kernel
theorem dL_law_319 : decode cL_law 319 = .ok (.iaload, 1) := by decide +kernel
theorem dL_law_320 : decode cL_law 320 = .ok (.invokevirtual 41, 3) := by decide +kernel
theorem dL_law_323 : decode cL_law 323 = .ok (.aload_n 2, 1) := by decide +kernel
theorem dL_law_324 : decode cL_law 324 = .ok (.aload_n 0, 1) := by decide +kernel
theorem dL_law_325 : decode cL_law 325 = .ok (.iload_n 3, 1) := by decide +kernel
theorem dL_law_326 : decode cL_law 326 = .ok (.iconst 1, 1) := by decide +kernel
theorem dL_law_327 : decode cL_law 327 = .ok (.iadd, 1) := by decide +kernel
theorem dL_law_328 : decode cL_law 328 = .ok (.iaload, 1) := by decide +kernel
theorem dL_law_329 : decode cL_law 329 = .ok (.aload_n 0, 1) := by decide +kernel
theorem dL_law_330 : decode cL_law 330 = .ok (.iload_n 3, 1) := by decide +kernel
theorem dL_law_331 : decode cL_law 331 = .ok (.iconst 2, 1) := by decide +kernel
theorem dL_law_332 : decode cL_law 332 = .ok (.iadd, 1) := by decide +kernel
theorem dL_law_333 : decode cL_law 333 = .ok (.iaload, 1) := by decide +kernel
theorem dL_law_334 : decode cL_law 334 = .ok (.aload_n 0, 1) := by decide +kernel
theorem dL_law_335 : decode cL_law 335 = .ok (.iload_n 3, 1) := by decide +kernel
theorem dL_law_336 : decode cL_law 336 = .ok (.iconst 3, 1) := by decide +kernel
theorem dL_law_337 : decode cL_law 337 = .ok (.iadd, 1) := by decide +kernel
theorem dL_law_338 : decode cL_law 338 = .ok (.iaload, 1) := by decide +kernel
theorem dL_law_339 : decode cL_law 339 = .ok (.invokevirtual 45, 3) := by decide +kernel
theorem dL_law_342 : decode cL_law 342 = .ok (.if_icmp .eq 760, 3) := by decide +kernel
theorem dL_law_345 : decode cL_law 345 = .ok (.iconst 0, 1) := by decide +kernel
theorem dL_law_346 : decode cL_law 346 = .ok (.ireturn, 1) := by decide +kernel
theorem dL_law_347 : decode cL_law 347 = .ok (.aload_n 1, 1) := by decide +kernel
theorem dL_law_348 : decode cL_law 348 = .ok (.aload_n 0, 1) := by decide +kernel
theorem dL_law_349 : decode cL_law 349 = .ok (.iload_n 3, 1) := by decide +kernel
theorem dL_law_350 : decode cL_law 350 = .ok (.iconst 1, 1) := by decide +kernel
theorem dL_law_351 : decode cL_law 351 = .ok (.iadd, 1) := by decide +kernel
theorem dL_law_352 : decode cL_law 352 = .ok (.iaload, 1) := by decide +kernel
theorem dL_law_353 : decode cL_law 353 = .ok (.aload_n 0, 1) := by decide +kernel
theorem dL_law_354 : decode cL_law 354 = .ok (.iload_n 3, 1) := by decide +kernel
theorem dL_law_355 : decode cL_law 355 = .ok (.iconst 2, 1) := by decide +kernel
theorem dL_law_356 : decode cL_law 356 = .ok (.iadd, 1) := by decide +kernel
theorem dL_law_357 : decode cL_law 357 = .ok (.iaload, 1) := by decide +kernel
theorem dL_law_358 : decode cL_law 358 = .ok (.aload_n 0, 1) := by decide +kernel
theorem dL_law_359 : decode cL_law 359 = .ok (.iload_n 3, 1) := by decide +kernel
theorem dL_law_360 : decode cL_law 360 = .ok (.iconst 3, 1) := by decide +kernel
theorem dL_law_361 : decode cL_law 361 = .ok (.iadd, 1) := by decide +kernel
theorem dL_law_362 : decode cL_law 362 = .ok (.iaload, 1) := by decide +kernel
theorem dL_law_363 : decode cL_law 363 = .ok (.ifCond .eq 7, 3) := by decide +kernel
theorem dL_law_366 : decode cL_law 366 = .ok (.iconst 1, 1) := by decide +kernel
theorem dL_law_367 : decode cL_law 367 = .ok (.goto 4, 3) := by decide +kernel
theorem dL_law_370 : decode cL_law 370 = .ok (.iconst 0, 1) := by decide +kernel
theorem dL_law_371 : decode cL_law 371 = .ok (.invokevirtual 46, 3) := by decide +kernel
theorem dL_law_374 : decode cL_law 374 = .ok (.aload_n 2, 1) := by decide +kernel
theorem dL_law_375 : decode cL_law 375 = .ok (.aload_n 0, 1) := by decide +kernel
theorem dL_law_376 : decode cL_law 376 = .ok (.iload_n 3, 1) := by decide +kernel
theorem dL_law_377 : decode cL_law 377 = .ok (.iconst 1, 1) := by decide +kernel
theorem dL_law_378 : decode cL_law 378 = .ok (.iadd, 1) := by decide +kernel
theorem dL_law_379 : decode cL_law 379 = .ok (.iaload, 1) := by decide +kernel
theorem dL_law_380 : decode cL_law 380 = .ok (.aload_n 0, 1) := by decide +kernel
theorem dL_law_381 : decode cL_law 381 = .ok (.iload_n 3, 1) := by decide +kernel
theorem dL_law_382 : decode cL_law 382 = .ok (.iconst 2, 1) := by decide +kernel
theorem dL_law_383 : decode cL_law 383 = .ok (.iadd, 1) := by decide +kernel
theorem dL_law_384 : decode cL_law 384 = .ok (.iaload, 1) := by decide +kernel
theorem dL_law_385 : decode cL_law 385 = .ok (.aload_n 0, 1) := by decide +kernel
theorem dL_law_386 : decode cL_law 386 = .ok (.iload_n 3, 1) := by decide +kernel
theorem dL_law_387 : decode cL_law 387 = .ok (.iconst 3, 1) := by decide +kernel
theorem dL_law_388 : decode cL_law 388 = .ok (.iadd, 1) := by decide +kernel
theorem dL_law_389 : decode cL_law 389 = .ok (.iaload, 1) := by decide +kernel
theorem dL_law_390 : decode cL_law 390 = .ok (.ifCond .eq 7, 3) := by decide +kernel
theorem dL_law_393 : decode cL_law 393 = .ok (.iconst 1, 1) := by decide +kernel
theorem dL_law_394 : decode cL_law 394 = .ok (.goto 4, 3) := by decide +kernel
theorem dL_law_397 : decode cL_law 397 = .ok (.iconst 0, 1) := by decide +kernel
theorem dL_law_398 : decode cL_law 398 = .ok (.invokevirtual 50, 3) := by decide +kernel
theorem dL_law_401 : decode cL_law 401 = .ok (.if_icmp .eq 701, 3) := by decide +kernel
theorem dL_law_404 : decode cL_law 404 = .ok (.iconst 0, 1) := by decide +kernel
theorem dL_law_405 : decode cL_law 405 = .ok (.ireturn, 1) := by decide +kernel
theorem dL_law_406 : decode cL_law 406 = .ok (.aload_n 1, 1) := by decide +kernel
theorem dL_law_407 : decode cL_law 407 = .ok (.aload_n 0, 1) := by decide +kernel
theorem dL_law_408 : decode cL_law 408 = .ok (.iload_n 3, 1) := by decide +kernel
theorem dL_law_409 : decode cL_law 409 = .ok (.iconst 1, 1) := by decide +kernel
theorem dL_law_410 : decode cL_law 410 = .ok (.iadd, 1) := by decide +kernel
theorem dL_law_411 : decode cL_law 411 = .ok (.iaload, 1) := by decide +kernel
theorem dL_law_412 : decode cL_law 412 = .ok (.aload_n 0, 1) := by decide +kernel
theorem dL_law_413 : decode cL_law 413 = .ok (.iload_n 3, 1) := by decide +kernel
theorem dL_law_414 : decode cL_law 414 = .ok (.iconst 2, 1) := by decide +kernel
theorem dL_law_415 : decode cL_law 415 = .ok (.iadd, 1) := by decide +kernel
theorem dL_law_416 : decode cL_law 416 = .ok (.iaload, 1) := by decide +kernel
theorem dL_law_417 : decode cL_law 417 = .ok (.invokevirtual 51, 3) := by decide +kernel
theorem dL_law_420 : decode cL_law 420 = .ok (.aload_n 2, 1) := by decide +kernel
theorem dL_law_421 : decode cL_law 421 = .ok (.aload_n 0, 1) := by decide +kernel
theorem dL_law_422 : decode cL_law 422 = .ok (.iload_n 3, 1) := by decide +kernel
theorem dL_law_423 : decode cL_law 423 = .ok (.iconst 1, 1) := by decide +kernel
theorem dL_law_424 : decode cL_law 424 = .ok (.iadd, 1) := by decide +kernel
theorem dL_law_425 : decode cL_law 425 = .ok (.iaload, 1) := by decide +kernel
theorem dL_law_426 : decode cL_law 426 = .ok (.aload_n 0, 1) := by decide +kernel
theorem dL_law_427 : decode cL_law 427 = .ok (.iload_n 3, 1) := by decide +kernel
theorem dL_law_428 : decode cL_law 428 = .ok (.iconst 2, 1) := by decide +kernel
theorem dL_law_429 : decode cL_law 429 = .ok (.iadd, 1) := by decide +kernel
theorem dL_law_430 : decode cL_law 430 = .ok (.iaload, 1) := by decide +kernel
theorem dL_law_431 : decode cL_law 431 = .ok (.invokevirtual 54, 3) := by decide +kernel
theorem dL_law_434 : decode cL_law 434 = .ok (.if_icmp .eq 668, 3) := by decide +kernel
theorem dL_law_437 : decode cL_law 437 = .ok (.iconst 0, 1) := by decide +kernel
theorem dL_law_438 : decode cL_law 438 = .ok (.ireturn, 1) := by decide +kernel
theorem dL_law_439 : decode cL_law 439 = .ok (.aload_n 1, 1) := by decide +kernel
theorem dL_law_440 : decode cL_law 440 = .ok (.aload_n 0, 1) := by decide +kernel
theorem dL_law_441 : decode cL_law 441 = .ok (.iload_n 3, 1) := by decide +kernel
theorem dL_law_442 : decode cL_law 442 = .ok (.iconst 1, 1) := by decide +kernel
theorem dL_law_443 : decode cL_law 443 = .ok (.iadd, 1) := by decide +kernel
theorem dL_law_444 : decode cL_law 444 = .ok (.iaload, 1) := by decide +kernel
theorem dL_law_445 : decode cL_law 445 = .ok (.aload_n 0, 1) := by decide +kernel
theorem dL_law_446 : decode cL_law 446 = .ok (.iload_n 3, 1) := by decide +kernel
theorem dL_law_447 : decode cL_law 447 = .ok (.iconst 2, 1) := by decide +kernel
theorem dL_law_448 : decode cL_law 448 = .ok (.iadd, 1) := by decide +kernel
theorem dL_law_449 : decode cL_law 449 = .ok (.iaload, 1) := by decide +kernel
theorem dL_law_450 : decode cL_law 450 = .ok (.aload_n 0, 1) := by decide +kernel
theorem dL_law_451 : decode cL_law 451 = .ok (.iload_n 3, 1) := by decide +kernel
theorem dL_law_452 : decode cL_law 452 = .ok (.iconst 3, 1) := by decide +kernel
theorem dL_law_453 : decode cL_law 453 = .ok (.iadd, 1) := by decide +kernel
theorem dL_law_454 : decode cL_law 454 = .ok (.iaload, 1) := by decide +kernel
theorem dL_law_455 : decode cL_law 455 = .ok (.aload_n 0, 1) := by decide +kernel
theorem dL_law_456 : decode cL_law 456 = .ok (.iload_n 3, 1) := by decide +kernel
theorem dL_law_457 : decode cL_law 457 = .ok (.iconst 4, 1) := by decide +kernel
theorem dL_law_458 : decode cL_law 458 = .ok (.iadd, 1) := by decide +kernel
theorem dL_law_459 : decode cL_law 459 = .ok (.iaload, 1) := by decide +kernel
theorem dL_law_460 : decode cL_law 460 = .ok (.aload_n 0, 1) := by decide +kernel
theorem dL_law_461 : decode cL_law 461 = .ok (.iload_n 3, 1) := by decide +kernel
theorem dL_law_462 : decode cL_law 462 = .ok (.iconst 5, 1) := by decide +kernel
theorem dL_law_463 : decode cL_law 463 = .ok (.iadd, 1) := by decide +kernel
theorem dL_law_464 : decode cL_law 464 = .ok (.iaload, 1) := by decide +kernel
theorem dL_law_465 : decode cL_law 465 = .ok (.invokevirtual 55, 3) := by decide +kernel
theorem dL_law_468 : decode cL_law 468 = .ok (.aload_n 2, 1) := by decide +kernel
theorem dL_law_469 : decode cL_law 469 = .ok (.aload_n 0, 1) := by decide +kernel
theorem dL_law_470 : decode cL_law 470 = .ok (.iload_n 3, 1) := by decide +kernel
theorem dL_law_471 : decode cL_law 471 = .ok (.iconst 1, 1) := by decide +kernel
theorem dL_law_472 : decode cL_law 472 = .ok (.iadd, 1) := by decide +kernel
theorem dL_law_473 : decode cL_law 473 = .ok (.iaload, 1) := by decide +kernel
theorem dL_law_474 : decode cL_law 474 = .ok (.aload_n 0, 1) := by decide +kernel
theorem dL_law_475 : decode cL_law 475 = .ok (.iload_n 3, 1) := by decide +kernel
theorem dL_law_476 : decode cL_law 476 = .ok (.iconst 2, 1) := by decide +kernel
theorem dL_law_477 : decode cL_law 477 = .ok (.iadd, 1) := by decide +kernel
theorem dL_law_478 : decode cL_law 478 = .ok (.iaload, 1) := by decide +kernel
theorem dL_law_479 : decode cL_law 479 = .ok (.aload_n 0, 1) := by decide +kernel
theorem dL_law_480 : decode cL_law 480 = .ok (.iload_n 3, 1) := by decide +kernel
theorem dL_law_481 : decode cL_law 481 = .ok (.iconst 3, 1) := by decide +kernel
theorem dL_law_482 : decode cL_law 482 = .ok (.iadd, 1) := by decide +kernel
theorem dL_law_483 : decode cL_law 483 = .ok (.iaload, 1) := by decide +kernel
theorem dL_law_484 : decode cL_law 484 = .ok (.aload_n 0, 1) := by decide +kernel
theorem dL_law_485 : decode cL_law 485 = .ok (.iload_n 3, 1) := by decide +kernel
theorem dL_law_486 : decode cL_law 486 = .ok (.iconst 4, 1) := by decide +kernel
theorem dL_law_487 : decode cL_law 487 = .ok (.iadd, 1) := by decide +kernel
theorem dL_law_488 : decode cL_law 488 = .ok (.iaload, 1) := by decide +kernel
theorem dL_law_489 : decode cL_law 489 = .ok (.aload_n 0, 1) := by decide +kernel
theorem dL_law_490 : decode cL_law 490 = .ok (.iload_n 3, 1) := by decide +kernel
theorem dL_law_491 : decode cL_law 491 = .ok (.iconst 5, 1) := by decide +kernel
theorem dL_law_492 : decode cL_law 492 = .ok (.iadd, 1) := by decide +kernel
theorem dL_law_493 : decode cL_law 493 = .ok (.iaload, 1) := by decide +kernel
theorem dL_law_494 : decode cL_law 494 = .ok (.invokevirtual 58, 3) := by decide +kernel
theorem dL_law_497 : decode cL_law 497 = .ok (.if_icmp .eq 605, 3) := by decide +kernel
theorem dL_law_500 : decode cL_law 500 = .ok (.iconst 0, 1) := by decide +kernel
theorem dL_law_501 : decode cL_law 501 = .ok (.ireturn, 1) := by decide +kernel
theorem dL_law_502 : decode cL_law 502 = .ok (.aload_n 1, 1) := by decide +kernel
theorem dL_law_503 : decode cL_law 503 = .ok (.aload_n 0, 1) := by decide +kernel
theorem dL_law_504 : decode cL_law 504 = .ok (.iload_n 3, 1) := by decide +kernel
theorem dL_law_505 : decode cL_law 505 = .ok (.iconst 1, 1) := by decide +kernel
theorem dL_law_506 : decode cL_law 506 = .ok (.iadd, 1) := by decide +kernel
theorem dL_law_507 : decode cL_law 507 = .ok (.iaload, 1) := by decide +kernel
theorem dL_law_508 : decode cL_law 508 = .ok (.aload_n 0, 1) := by decide +kernel
theorem dL_law_509 : decode cL_law 509 = .ok (.iload_n 3, 1) := by decide +kernel
theorem dL_law_510 : decode cL_law 510 = .ok (.iconst 2, 1) := by decide +kernel
theorem dL_law_511 : decode cL_law 511 = .ok (.iadd, 1) := by decide +kernel
theorem dL_law_512 : decode cL_law 512 = .ok (.iaload, 1) := by decide +kernel
theorem dL_law_513 : decode cL_law 513 = .ok (.invokevirtual 59, 3) := by decide +kernel
theorem dL_law_516 : decode cL_law 516 = .ok (.aload_n 2, 1) := by decide +kernel
theorem dL_law_517 : decode cL_law 517 = .ok (.aload_n 0, 1) := by decide +kernel
theorem dL_law_518 : decode cL_law 518 = .ok (.iload_n 3, 1) := by decide +kernel
theorem dL_law_519 : decode cL_law 519 = .ok (.iconst 1, 1) := by decide +kernel
theorem dL_law_520 : decode cL_law 520 = .ok (.iadd, 1) := by decide +kernel
theorem dL_law_521 : decode cL_law 521 = .ok (.iaload, 1) := by decide +kernel
theorem dL_law_522 : decode cL_law 522 = .ok (.aload_n 0, 1) := by decide +kernel
theorem dL_law_523 : decode cL_law 523 = .ok (.iload_n 3, 1) := by decide +kernel
theorem dL_law_524 : decode cL_law 524 = .ok (.iconst 2, 1) := by decide +kernel
theorem dL_law_525 : decode cL_law 525 = .ok (.iadd, 1) := by decide +kernel
theorem dL_law_526 : decode cL_law 526 = .ok (.iaload, 1) := by decide +kernel
theorem dL_law_527 : decode cL_law 527 = .ok (.invokevirtual 62, 3) := by decide +kernel
theorem dL_law_530 : decode cL_law 530 = .ok (.if_icmp .eq 572, 3) := by decide +kernel
theorem dL_law_533 : decode cL_law 533 = .ok (.iconst 0, 1) := by decide +kernel
theorem dL_law_534 : decode cL_law 534 = .ok (.ireturn, 1) := by decide +kernel
theorem dL_law_535 : decode cL_law 535 = .ok (.aload_n 1, 1) := by decide +kernel
theorem dL_law_536 : decode cL_law 536 = .ok (.aload_n 0, 1) := by decide +kernel
theorem dL_law_537 : decode cL_law 537 = .ok (.iload_n 3, 1) := by decide +kernel
theorem dL_law_538 : decode cL_law 538 = .ok (.iconst 1, 1) := by decide +kernel
theorem dL_law_539 : decode cL_law 539 = .ok (.iadd, 1) := by decide +kernel
theorem dL_law_540 : decode cL_law 540 = .ok (.iaload, 1) := by decide +kernel
theorem dL_law_541 : decode cL_law 541 = .ok (.aload_n 0, 1) := by decide +kernel
theorem dL_law_542 : decode cL_law 542 = .ok (.iload_n 3, 1) := by decide +kernel
theorem dL_law_543 : decode cL_law 543 = .ok (.iconst 2, 1) := by decide +kernel
theorem dL_law_544 : decode cL_law 544 = .ok (.iadd, 1) := by decide +kernel
theorem dL_law_545 : decode cL_law 545 = .ok (.iaload, 1) := by decide +kernel
theorem dL_law_546 : decode cL_law 546 = .ok (.ifCond .eq 7, 3) := by decide +kernel
