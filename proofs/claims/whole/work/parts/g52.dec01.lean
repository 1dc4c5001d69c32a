theorem dX5_init_97 : decode cX5_init 97 = .ok (.return_, 1) := by decide +kernel
theorem dX5_post_0 : decode cX5_post 0 = .ok (.aload_n 0, 1) := by decide +kernel
theorem dX5_post_1 : decode cX5_post 1 = .ok (.getfield 32, 3) := by decide +kernel
theorem dX5_post_4 : decode cX5_post 4 = .ok (.aload_n 0, 1) := by decide +kernel
theorem dX5_post_5 : decode cX5_post 5 = .ok (.getfield 35, 3) := by decide +kernel
theorem dX5_post_8 : decode cX5_post 8 = .ok (.isub, 1) := by decide +kernel
theorem dX5_post_9 : decode cX5_post 9 = .ok (.sipush 200, 3) := by decide +kernel
theorem dX5_post_12 : decode cX5_post 12 = .ok (.if_icmp .ge 27, 3) := by decide +kernel
theorem dX5_post_15 : decode cX5_post 15 = .ok (.aload_n 0, 1) := by decide +kernel
theorem dX5_post_16 : decode cX5_post 16 = .ok (.getfield 18, 3) := by decide +kernel
theorem dX5_post_19 : decode cX5_post 19 = .ok (.aload_n 0, 1) := by decide +kernel
theorem dX5_post_20 : decode cX5_post 20 = .ok (.getfield 32, 3) := by decide +kernel
theorem dX5_post_23 : decode cX5_post 23 = .ok (.sipush 200, 3) := by decide +kernel
theorem dX5_post_26 : decode cX5_post 26 = .ok (.irem, 1) := by decide +kernel
theorem dX5_post_27 : decode cX5_post 27 = .ok (.lload_n 1, 1) := by decide +kernel
theorem dX5_post_28 : decode cX5_post 28 = .ok (.lastore, 1) := by decide +kernel
theorem dX5_post_29 : decode cX5_post 29 = .ok (.aload_n 0, 1) := by decide +kernel
theorem dX5_post_30 : decode cX5_post 30 = .ok (.dup, 1) := by decide +kernel
theorem dX5_post_31 : decode cX5_post 31 = .ok (.getfield 32, 3) := by decide +kernel
theorem dX5_post_34 : decode cX5_post 34 = .ok (.iconst 1, 1) := by decide +kernel
theorem dX5_post_35 : decode cX5_post 35 = .ok (.iadd, 1) := by decide +kernel
theorem dX5_post_36 : decode cX5_post 36 = .ok (.putfield 32, 3) := by decide +kernel
theorem dX5_post_39 : decode cX5_post 39 = .ok (.return_, 1) := by decide +kernel
theorem dX5_fill_0 : decode cX5_fill 0 = .ok (.aload_n 1, 1) := by decide +kernel
theorem dX5_fill_1 : decode cX5_fill 1 = .ok (.ldc2_w 38, 3) := by decide +kernel
theorem dX5_fill_4 : decode cX5_fill 4 = .ok (.putfield 40, 3) := by decide +kernel
theorem dX5_fill_7 : decode cX5_fill 7 = .ok (.aload_n 0, 1) := by decide +kernel
theorem dX5_fill_8 : decode cX5_fill 8 = .ok (.getfield 44, 3) := by decide +kernel
theorem dX5_fill_11 : decode cX5_fill 11 = .ok (.aload_n 0, 1) := by decide +kernel
theorem dX5_fill_12 : decode cX5_fill 12 = .ok (.getfield 32, 3) := by decide +kernel
theorem dX5_fill_15 : decode cX5_fill 15 = .ok (.if_icmp .ge 63, 3) := by decide +kernel
theorem dX5_fill_18 : decode cX5_fill 18 = .ok (.aload_n 0, 1) := by decide +kernel
theorem dX5_fill_19 : decode cX5_fill 19 = .ok (.getfield 44, 3) := by decide +kernel
theorem dX5_fill_22 : decode cX5_fill 22 = .ok (.aload_n 0, 1) := by decide +kernel
theorem dX5_fill_23 : decode cX5_fill 23 = .ok (.getfield 35, 3) := by decide +kernel
theorem dX5_fill_26 : decode cX5_fill 26 = .ok (.bipush 100, 2) := by decide +kernel
theorem dX5_fill_28 : decode cX5_fill 28 = .ok (.iadd, 1) := by decide +kernel
theorem dX5_fill_29 : decode cX5_fill 29 = .ok (.if_icmp .ge 49, 3) := by decide +kernel
theorem dX5_fill_32 : decode cX5_fill 32 = .ok (.aload_n 1, 1) := by decide +kernel
theorem dX5_fill_33 : decode cX5_fill 33 = .ok (.aload_n 0, 1) := by decide +kernel
theorem dX5_fill_34 : decode cX5_fill 34 = .ok (.getfield 18, 3) := by decide +kernel
theorem dX5_fill_37 : decode cX5_fill 37 = .ok (.aload_n 0, 1) := by decide +kernel
theorem dX5_fill_38 : decode cX5_fill 38 = .ok (.getfield 44, 3) := by decide +kernel
theorem dX5_fill_41 : decode cX5_fill 41 = .ok (.sipush 200, 3) := by decide +kernel
theorem dX5_fill_44 : decode cX5_fill 44 = .ok (.irem, 1) := by decide +kernel
theorem dX5_fill_45 : decode cX5_fill 45 = .ok (.laload, 1) := by decide +kernel
theorem dX5_fill_46 : decode cX5_fill 46 = .ok (.putfield 40, 3) := by decide +kernel
theorem dX5_fill_49 : decode cX5_fill 49 = .ok (.aload_n 0, 1) := by decide +kernel
theorem dX5_fill_50 : decode cX5_fill 50 = .ok (.dup, 1) := by decide +kernel
theorem dX5_fill_51 : decode cX5_fill 51 = .ok (.getfield 44, 3) := by decide +kernel
theorem dX5_fill_54 : decode cX5_fill 54 = .ok (.iconst 1, 1) := by decide +kernel
theorem dX5_fill_55 : decode cX5_fill 55 = .ok (.iadd, 1) := by decide +kernel
theorem dX5_fill_56 : decode cX5_fill 56 = .ok (.putfield 44, 3) := by decide +kernel
theorem dX5_fill_59 : decode cX5_fill 59 = .ok (.aload_n 0, 1) := by decide +kernel
theorem dX5_fill_60 : decode cX5_fill 60 = .ok (.getfield 47, 3) := by decide +kernel
theorem dX5_fill_63 : decode cX5_fill 63 = .ok (.aload_n 0, 1) := by decide +kernel
theorem dX5_fill_64 : decode cX5_fill 64 = .ok (.getfield 44, 3) := by decide +kernel
theorem dX5_fill_67 : decode cX5_fill 67 = .ok (.if_icmp .ge 11, 3) := by decide +kernel
theorem dX5_fill_70 : decode cX5_fill 70 = .ok (.aload_n 0, 1) := by decide +kernel
theorem dX5_fill_71 : decode cX5_fill 71 = .ok (.aload_n 0, 1) := by decide +kernel
theorem dX5_fill_72 : decode cX5_fill 72 = .ok (.getfield 44, 3) := by decide +kernel
theorem dX5_fill_75 : decode cX5_fill 75 = .ok (.putfield 47, 3) := by decide +kernel
theorem dX5_fill_78 : decode cX5_fill 78 = .ok (.aload_n 1, 1) := by decide +kernel
theorem dX5_fill_79 : decode cX5_fill 79 = .ok (.aload_n 0, 1) := by decide +kernel
theorem dX5_fill_80 : decode cX5_fill 80 = .ok (.getfield 44, 3) := by decide +kernel
theorem dX5_fill_83 : decode cX5_fill 83 = .ok (.bipush 127, 2) := by decide +kernel
theorem dX5_fill_85 : decode cX5_fill 85 = .ok (.iand, 1) := by decide +kernel
theorem dX5_fill_86 : decode cX5_fill 86 = .ok (.putfield 50, 3) := by decide +kernel
theorem dX5_fill_89 : decode cX5_fill 89 = .ok (.aload_n 1, 1) := by decide +kernel
theorem dX5_fill_90 : decode cX5_fill 90 = .ok (.aload_n 0, 1) := by decide +kernel
theorem dX5_fill_91 : decode cX5_fill 91 = .ok (.getfield 53, 3) := by decide +kernel
theorem dX5_fill_94 : decode cX5_fill 94 = .ok (.bipush 127, 2) := by decide +kernel
theorem dX5_fill_96 : decode cX5_fill 96 = .ok (.iand, 1) := by decide +kernel
theorem dX5_fill_97 : decode cX5_fill 97 = .ok (.putfield 56, 3) := by decide +kernel
theorem dX5_fill_100 : decode cX5_fill 100 = .ok (.aload_n 1, 1) := by decide +kernel
theorem dX5_fill_101 : decode cX5_fill 101 = .ok (.aload_n 0, 1) := by decide +kernel
theorem dX5_fill_102 : decode cX5_fill 102 = .ok (.getfield 9, 3) := by decide +kernel
theorem dX5_fill_105 : decode cX5_fill 105 = .ok (.putfield 59, 3) := by decide +kernel
theorem dX5_fill_108 : decode cX5_fill 108 = .ok (.aload_n 1, 1) := by decide +kernel
theorem dX5_fill_109 : decode cX5_fill 109 = .ok (.aload_n 0, 1) := by decide +kernel
theorem dX5_fill_110 : decode cX5_fill 110 = .ok (.getfield 15, 3) := by decide +kernel
theorem dX5_fill_113 : decode cX5_fill 113 = .ok (.putfield 60, 3) := by decide +kernel
theorem dX5_fill_116 : decode cX5_fill 116 = .ok (.aload_n 1, 1) := by decide +kernel
theorem dX5_fill_117 : decode cX5_fill 117 = .ok (.iconst 0, 1) := by decide +kernel
theorem dX5_fill_118 : decode cX5_fill 118 = .ok (.putfield 61, 3) := by decide +kernel
theorem dX5_fill_121 : decode cX5_fill 121 = .ok (.return_, 1) := by decide +kernel
theorem dX5_take_0 : decode cX5_take 0 = .ok (.aload_n 1, 1) := by decide +kernel
theorem dX5_take_1 : decode cX5_take 1 = .ok (.getfield 61, 3) := by decide +kernel
theorem dX5_take_4 : decode cX5_take 4 = .ok (.iconst 1, 1) := by decide +kernel
theorem dX5_take_5 : decode cX5_take 5 = .ok (.if_icmp .ne 13, 3) := by decide +kernel
theorem dX5_take_8 : decode cX5_take 8 = .ok (.aload_n 0, 1) := by decide +kernel
theorem dX5_take_9 : decode cX5_take 9 = .ok (.dup, 1) := by decide +kernel
theorem dX5_take_10 : decode cX5_take 10 = .ok (.getfield 64, 3) := by decide +kernel
theorem dX5_take_13 : decode cX5_take 13 = .ok (.iconst 1, 1) := by decide +kernel
theorem dX5_take_14 : decode cX5_take 14 = .ok (.iadd, 1) := by decide +kernel
theorem dX5_take_15 : decode cX5_take 15 = .ok (.putfield 64, 3) := by decide +kernel
theorem dX5_take_18 : decode cX5_take 18 = .ok (.aload_n 1, 1) := by decide +kernel
theorem dX5_take_19 : decode cX5_take 19 = .ok (.getfield 61, 3) := by decide +kernel
theorem dX5_take_22 : decode cX5_take 22 = .ok (.ifCond .eq 7, 3) := by decide +kernel
theorem dX5_take_25 : decode cX5_take 25 = .ok (.ldc2_w 38, 3) := by decide +kernel
theorem dX5_take_28 : decode cX5_take 28 = .ok (.lreturn, 1) := by decide +kernel
theorem dX5_take_29 : decode cX5_take 29 = .ok (.aload_n 1, 1) := by decide +kernel
theorem dX5_take_30 : decode cX5_take 30 = .ok (.getfield 56, 3) := by decide +kernel
theorem dX5_take_33 : decode cX5_take 33 = .ok (.aload_n 0, 1) := by decide +kernel
theorem dX5_take_34 : decode cX5_take 34 = .ok (.getfield 35, 3) := by decide +kernel
theorem dX5_take_37 : decode cX5_take 37 = .ok (.isub, 1) := by decide +kernel
theorem dX5_take_38 : decode cX5_take 38 = .ok (.bipush 127, 2) := by decide +kernel
theorem dX5_take_40 : decode cX5_take 40 = .ok (.iand, 1) := by decide +kernel
theorem dX5_take_41 : decode cX5_take 41 = .ok (.istore_n 2, 1) := by decide +kernel
theorem dX5_take_42 : decode cX5_take 42 = .ok (.iload_n 2, 1) := by decide +kernel
theorem dX5_take_43 : decode cX5_take 43 = .ok (.aload_n 0, 1) := by decide +kernel
theorem dX5_take_44 : decode cX5_take 44 = .ok (.getfield 47, 3) := by decide +kernel
theorem dX5_take_47 : decode cX5_take 47 = .ok (.aload_n 0, 1) := by decide +kernel
theorem dX5_take_48 : decode cX5_take 48 = .ok (.getfield 35, 3) := by decide +kernel
theorem dX5_take_51 : decode cX5_take 51 = .ok (.isub, 1) := by decide +kernel
theorem dX5_take_52 : decode cX5_take 52 = .ok (.if_icmp .le 7, 3) := by decide +kernel
theorem dX5_take_55 : decode cX5_take 55 = .ok (.ldc2_w 38, 3) := by decide +kernel
theorem dX5_take_58 : decode cX5_take 58 = .ok (.lreturn, 1) := by decide +kernel
theorem dX5_take_59 : decode cX5_take 59 = .ok (.aload_n 0, 1) := by decide +kernel
theorem dX5_take_60 : decode cX5_take 60 = .ok (.dup, 1) := by decide +kernel
theorem dX5_take_61 : decode cX5_take 61 = .ok (.getfield 35, 3) := by decide +kernel
theorem dX5_take_64 : decode cX5_take 64 = .ok (.iload_n 2, 1) := by decide +kernel
theorem dX5_take_65 : decode cX5_take 65 = .ok (.iadd, 1) := by decide +kernel
theorem dX5_take_66 : decode cX5_take 66 = .ok (.putfield 35, 3) := by decide +kernel
theorem dX5_take_69 : decode cX5_take 69 = .ok (.aload_n 0, 1) := by decide +kernel
theorem dX5_take_70 : decode cX5_take 70 = .ok (.getfield 44, 3) := by decide +kernel
theorem dX5_take_73 : decode cX5_take 73 = .ok (.aload_n 0, 1) := by decide +kernel
theorem dX5_take_74 : decode cX5_take 74 = .ok (.getfield 35, 3) := by decide +kernel
theorem dX5_take_77 : decode cX5_take 77 = .ok (.if_icmp .ge 11, 3) := by decide +kernel
theorem dX5_take_80 : decode cX5_take 80 = .ok (.aload_n 0, 1) := by decide +kernel
theorem dX5_take_81 : decode cX5_take 81 = .ok (.aload_n 0, 1) := by decide +kernel
theorem dX5_take_82 : decode cX5_take 82 = .ok (.getfield 35, 3) := by decide +kernel
theorem dX5_take_85 : decode cX5_take 85 = .ok (.putfield 44, 3) := by decide +kernel
theorem dX5_take_88 : decode cX5_take 88 = .ok (.aload_n 1, 1) := by decide +kernel
theorem dX5_take_89 : decode cX5_take 89 = .ok (.getfield 60, 3) := by decide +kernel
theorem dX5_take_92 : decode cX5_take 92 = .ok (.aload_n 0, 1) := by decide +kernel
theorem dX5_take_93 : decode cX5_take 93 = .ok (.getfield 9, 3) := by decide +kernel
theorem dX5_take_96 : decode cX5_take 96 = .ok (.if_icmp .eq 19, 3) := by decide +kernel
theorem dX5_take_99 : decode cX5_take 99 = .ok (.aload_n 0, 1) := by decide +kernel
theorem dX5_take_100 : decode cX5_take 100 = .ok (.aload_n 1, 1) := by decide +kernel
theorem dX5_take_101 : decode cX5_take 101 = .ok (.getfield 60, 3) := by decide +kernel
theorem dX5_take_104 : decode cX5_take 104 = .ok (.putfield 9, 3) := by decide +kernel
theorem dX5_take_107 : decode cX5_take 107 = .ok (.aload_n 0, 1) := by decide +kernel
theorem dX5_take_108 : decode cX5_take 108 = .ok (.aload_n 0, 1) := by decide +kernel
theorem dX5_take_109 : decode cX5_take 109 = .ok (.getfield 35, 3) := by decide +kernel
theorem dX5_take_112 : decode cX5_take 112 = .ok (.putfield 44, 3) := by decide +kernel
theorem dX5_take_115 : decode cX5_take 115 = .ok (.aload_n 1, 1) := by decide +kernel
theorem dX5_take_116 : decode cX5_take 116 = .ok (.getfield 50, 3) := by decide +kernel
theorem dX5_take_119 : decode cX5_take 119 = .ok (.aload_n 0, 1) := by decide +kernel
theorem dX5_take_120 : decode cX5_take 120 = .ok (.getfield 53, 3) := by decide +kernel
theorem dX5_take_123 : decode cX5_take 123 = .ok (.isub, 1) := by decide +kernel
theorem dX5_take_124 : decode cX5_take 124 = .ok (.bipush 127, 2) := by decide +kernel
theorem dX5_take_126 : decode cX5_take 126 = .ok (.iand, 1) := by decide +kernel
theorem dX5_take_127 : decode cX5_take 127 = .ok (.istore_n 3, 1) := by decide +kernel
theorem dX5_take_128 : decode cX5_take 128 = .ok (.aload_n 1, 1) := by decide +kernel
theorem dX5_take_129 : decode cX5_take 129 = .ok (.getfield 59, 3) := by decide +kernel
theorem dX5_take_132 : decode cX5_take 132 = .ok (.aload_n 0, 1) := by decide +kernel
theorem dX5_take_133 : decode cX5_take 133 = .ok (.getfield 15, 3) := by decide +kernel
theorem dX5_take_136 : decode cX5_take 136 = .ok (.if_icmp .ne 7, 3) := by decide +kernel
theorem dX5_take_139 : decode cX5_take 139 = .ok (.iload_n 3, 1) := by decide +kernel
theorem dX5_take_140 : decode cX5_take 140 = .ok (.ifCond .ne 7, 3) := by decide +kernel
theorem dX5_take_143 : decode cX5_take 143 = .ok (.ldc2_w 38, 3) := by decide +kernel
theorem dX5_take_146 : decode cX5_take 146 = .ok (.lreturn, 1) := by decide +kernel
theorem dX5_take_147 : decode cX5_take 147 = .ok (.iload_n 3, 1) := by decide +kernel
theorem dX5_take_148 : decode cX5_take 148 = .ok (.iconst 1, 1) := by decide +kernel
theorem dX5_take_149 : decode cX5_take 149 = .ok (.if_icmp .ne 29, 3) := by decide +kernel
theorem dX5_take_152 : decode cX5_take 152 = .ok (.aload_n 1, 1) := by decide +kernel
theorem dX5_take_153 : decode cX5_take 153 = .ok (.getfield 40, 3) := by decide +kernel
theorem dX5_take_156 : decode cX5_take 156 = .ok (.ldc2_w 38, 3) := by decide +kernel
theorem dX5_take_159 : decode cX5_take 159 = .ok (.lcmp, 1) := by decide +kernel
theorem dX5_take_160 : decode cX5_take 160 = .ok (.ifCond .eq 18, 3) := by decide +kernel
theorem dX5_take_163 : decode cX5_take 163 = .ok (.aload_n 0, 1) := by decide +kernel
theorem dX5_take_164 : decode cX5_take 164 = .ok (.dup, 1) := by decide +kernel
theorem dX5_take_165 : decode cX5_take 165 = .ok (.getfield 53, 3) := by decide +kernel
theorem dX5_take_168 : decode cX5_take 168 = .ok (.iconst 1, 1) := by decide +kernel
theorem dX5_take_169 : decode cX5_take 169 = .ok (.iadd, 1) := by decide +kernel
theorem dX5_take_170 : decode cX5_take 170 = .ok (.putfield 53, 3) := by decide +kernel
theorem dX5_take_173 : decode cX5_take 173 = .ok (.aload_n 1, 1) := by decide +kernel
theorem dX5_take_174 : decode cX5_take 174 = .ok (.getfield 40, 3) := by decide +kernel
theorem dX5_take_177 : decode cX5_take 177 = .ok (.lreturn, 1) := by decide +kernel
theorem dX5_take_178 : decode cX5_take 178 = .ok (.aload_n 0, 1) := by decide +kernel
theorem dX5_take_179 : decode cX5_take 179 = .ok (.iconst 1, 1) := by decide +kernel
theorem dX5_take_180 : decode cX5_take 180 = .ok (.aload_n 0, 1) := by decide +kernel
theorem dX5_take_181 : decode cX5_take 181 = .ok (.getfield 15, 3) := by decide +kernel
theorem dX5_take_184 : decode cX5_take 184 = .ok (.isub, 1) := by decide +kernel
theorem dX5_take_185 : decode cX5_take 185 = .ok (.putfield 15, 3) := by decide +kernel
theorem dX5_take_188 : decode cX5_take 188 = .ok (.ldc2_w 38, 3) := by decide +kernel
theorem dX5_take_191 : decode cX5_take 191 = .ok (.lreturn, 1) := by decide +kernel
theorem dX6_init_0 : decode cX6_init 0 = .ok (.aload_n 0, 1) := by decide +kernel
theorem dX6_init_1 : decode cX6_init 1 = .ok (.invokespecial 1, 3) := by decide +kernel
theorem dX6_init_4 : decode cX6_init 4 = .ok (.aload_n 0, 1) := by decide +kernel
theorem dX6_init_5 : decode cX6_init 5 = .ok (.lload_n 1, 1) := by decide +kernel
theorem dX6_init_6 : decode cX6_init 6 = .ok (.putfield 7, 3) := by decide +kernel
theorem dX6_init_9 : decode cX6_init 9 = .ok (.aload_n 0, 1) := by decide +kernel
theorem dX6_init_10 : decode cX6_init 10 = .ok (.iload_n 3, 1) := by decide +kernel
theorem dX6_init_11 : decode cX6_init 11 = .ok (.putfield 13, 3) := by decide +kernel
theorem dX6_init_14 : decode cX6_init 14 = .ok (.aload_n 0, 1) := by decide +kernel
theorem dX6_init_15 : decode cX6_init 15 = .ok (.iload 4, 2) := by decide +kernel
theorem dX6_init_17 : decode cX6_init 17 = .ok (.putfield 17, 3) := by decide +kernel
theorem dX6_init_20 : decode cX6_init 20 = .ok (.aload_n 0, 1) := by decide +kernel
theorem dX6_init_21 : decode cX6_init 21 = .ok (.iload 5, 2) := by decide +kernel
theorem dX6_init_23 : decode cX6_init 23 = .ok (.putfield 20, 3) := by decide +kernel
theorem dX6_init_26 : decode cX6_init 26 = .ok (.aload_n 0, 1) := by decide +kernel
theorem dX6_init_27 : decode cX6_init 27 = .ok (.iload 6, 2) := by decide +kernel
theorem dX6_init_29 : decode cX6_init 29 = .ok (.putfield 23, 3) := by decide +kernel
theorem dX6_init_32 : decode cX6_init 32 = .ok (.return_, 1) := by decide +kernel
theorem dX7_init_0 : decode cX7_init 0 = .ok (.aload_n 0, 1) := by decide +kernel
theorem dX7_init_1 : decode cX7_init 1 = .ok (.invokespecial 3, 3) := by decide +kernel
theorem dX7_init_4 : decode cX7_init 4 = .ok (.aload_n 0, 1) := by decide +kernel
theorem dX7_init_5 : decode cX7_init 5 = .ok (.sipush 300, 3) := by decide +kernel
theorem dX7_init_8 : decode cX7_init 8 = .ok (.newarray .int, 2) := by decide +kernel
theorem dX7_init_10 : decode cX7_init 10 = .ok (.putfield 9, 3) := by decide +kernel
theorem dX7_init_13 : decode cX7_init 13 = .ok (.aload_n 0, 1) := by decide +kernel
theorem dX7_init_14 : decode cX7_init 14 = .ok (.sipush 300, 3) := by decide +kernel
theorem dX7_init_17 : decode cX7_init 17 = .ok (.newarray .int, 2) := by decide +kernel
theorem dX7_init_19 : decode cX7_init 19 = .ok (.putfield 15, 3) := by decide +kernel
theorem dX7_init_22 : decode cX7_init 22 = .ok (.return_, 1) := by decide +kernel
theorem dX7_add_0 : decode cX7_add 0 = .ok (.aload_n 0, 1) := by decide +kernel
theorem dX7_add_1 : decode cX7_add 1 = .ok (.getfield 18, 3) := by decide +kernel
theorem dX7_add_4 : decode cX7_add 4 = .ok (.sipush 300, 3) := by decide +kernel
theorem dX7_add_7 : decode cX7_add 7 = .ok (.if_icmp .lt 6, 3) := by decide +kernel
theorem dX7_add_10 : decode cX7_add 10 = .ok (.bipush (-3), 2) := by decide +kernel
theorem dX7_add_12 : decode cX7_add 12 = .ok (.ireturn, 1) := by decide +kernel
theorem dX7_add_13 : decode cX7_add 13 = .ok (.iconst 2, 1) := by decide +kernel
theorem dX7_add_14 : decode cX7_add 14 = .ok (.iload_n 2, 1) := by decide +kernel
theorem dX7_add_15 : decode cX7_add 15 = .ok (.imul, 1) := by decide +kernel
theorem dX7_add_16 : decode cX7_add 16 = .ok (.iload_n 1, 1) := by decide +kernel
theorem dX7_add_17 : decode cX7_add 17 = .ok (.iadd, 1) := by decide +kernel
theorem dX7_add_18 : decode cX7_add 18 = .ok (.istore 4, 2) := by decide +kernel
theorem dX7_add_20 : decode cX7_add 20 = .ok (.aload_n 0, 1) := by decide +kernel
theorem dX7_add_21 : decode cX7_add 21 = .ok (.getfield 18, 3) := by decide +kernel
theorem dX7_add_24 : decode cX7_add 24 = .ok (.ifCond .eq 12, 3) := by decide +kernel
theorem dX7_add_27 : decode cX7_add 27 = .ok (.iload 4, 2) := by decide +kernel
theorem dX7_add_29 : decode cX7_add 29 = .ok (.aload_n 0, 1) := by decide +kernel
theorem dX7_add_30 : decode cX7_add 30 = .ok (.getfield 22, 3) := by decide +kernel
theorem dX7_add_33 : decode cX7_add 33 = .ok (.if_icmp .ge 9, 3) := by decide +kernel
theorem dX7_add_36 : decode cX7_add 36 = .ok (.aload_n 0, 1) := by decide +kernel
theorem dX7_add_37 : decode cX7_add 37 = .ok (.iload 4, 2) := by decide +kernel
theorem dX7_add_39 : decode cX7_add 39 = .ok (.putfield 22, 3) := by decide +kernel
theorem dX7_add_42 : decode cX7_add 42 = .ok (.aload_n 0, 1) := by decide +kernel
theorem dX7_add_43 : decode cX7_add 43 = .ok (.getfield 9, 3) := by decide +kernel
theorem dX7_add_46 : decode cX7_add 46 = .ok (.aload_n 0, 1) := by decide +kernel
theorem dX7_add_47 : decode cX7_add 47 = .ok (.getfield 18, 3) := by decide +kernel
theorem dX7_add_50 : decode cX7_add 50 = .ok (.iload 4, 2) := by decide +kernel
theorem dX7_add_52 : decode cX7_add 52 = .ok (.iastore, 1) := by decide +kernel
theorem dX7_add_53 : decode cX7_add 53 = .ok (.aload_n 0, 1) := by decide +kernel
theorem dX7_add_54 : decode cX7_add 54 = .ok (.getfield 15, 3) := by decide +kernel
theorem dX7_add_57 : decode cX7_add 57 = .ok (.aload_n 0, 1) := by decide +kernel
theorem dX7_add_58 : decode cX7_add 58 = .ok (.getfield 18, 3) := by decide +kernel
theorem dX7_add_61 : decode cX7_add 61 = .ok (.iload_n 3, 1) := by decide +kernel
theorem dX7_add_62 : decode cX7_add 62 = .ok (.iastore, 1) := by decide +kernel
theorem dX7_add_63 : decode cX7_add 63 = .ok (.aload_n 0, 1) := by decide +kernel
theorem dX7_add_64 : decode cX7_add 64 = .ok (.dup, 1) := by decide +kernel
theorem dX7_add_65 : decode cX7_add 65 = .ok (.getfield 18, 3) := by decide +kernel
theorem dX7_add_68 : decode cX7_add 68 = .ok (.iconst 1, 1) := by decide +kernel
theorem dX7_add_69 : decode cX7_add 69 = .ok (.iadd, 1) := by decide +kernel
theorem dX7_add_70 : decode cX7_add 70 = .ok (.putfield 18, 3) := by decide +kernel
theorem dX7_add_73 : decode cX7_add 73 = .ok (.aload_n 0, 1) := by decide +kernel
theorem dX7_add_74 : decode cX7_add 74 = .ok (.getfield 18, 3) := by decide +kernel
theorem dX7_add_77 : decode cX7_add 77 = .ok (.ireturn, 1) := by decide +kernel
theorem dX7_concern_0 : decode cX7_concern 0 = .ok (.aload_n 0, 1) := by decide +kernel
theorem dX7_concern_1 : decode cX7_concern 1 = .ok (.getfield 18, 3) := by decide +kernel
theorem dX7_concern_4 : decode cX7_concern 4 = .ok (.ifCond .le 19, 3) := by decide +kernel
theorem dX7_concern_7 : decode cX7_concern 7 = .ok (.aload_n 0, 1) := by decide +kernel
theorem dX7_concern_8 : decode cX7_concern 8 = .ok (.getfield 22, 3) := by decide +kernel
theorem dX7_concern_11 : decode cX7_concern 11 = .ok (.iconst 2, 1) := by decide +kernel
theorem dX7_concern_12 : decode cX7_concern 12 = .ok (.iload_n 2, 1) := by decide +kernel
theorem dX7_concern_13 : decode cX7_concern 13 = .ok (.imul, 1) := by decide +kernel
theorem dX7_concern_14 : decode cX7_concern 14 = .ok (.iload_n 1, 1) := by decide +kernel
theorem dX7_concern_15 : decode cX7_concern 15 = .ok (.iadd, 1) := by decide +kernel
theorem dX7_concern_16 : decode cX7_concern 16 = .ok (.if_icmp .ne 7, 3) := by decide +kernel
theorem dX7_concern_19 : decode cX7_concern 19 = .ok (.iconst 1, 1) := by decide +kernel
theorem dX7_concern_20 : decode cX7_concern 20 = .ok (.goto 4, 3) := by decide +kernel
theorem dX7_concern_23 : decode cX7_concern 23 = .ok (.iconst 0, 1) := by decide +kernel
theorem dX7_concern_24 : decode cX7_concern 24 = .ok (.ireturn, 1) := by decide +kernel
theorem dX7_turn_0 : decode cX7_turn 0 = .ok (.iconst 0, 1) := by decide +kernel
theorem dX7_turn_1 : decode cX7_turn 1 = .ok (.istore 4, 2) := by decide +kernel
theorem dX7_turn_3 : decode cX7_turn 3 = .ok (.iload 4, 2) := by decide +kernel
theorem dX7_turn_5 : decode cX7_turn 5 = .ok (.aload_n 0, 1) := by decide +kernel
theorem dX7_turn_6 : decode cX7_turn 6 = .ok (.getfield 18, 3) := by decide +kernel
theorem dX7_turn_9 : decode cX7_turn 9 = .ok (.if_icmp .ge 35, 3) := by decide +kernel
theorem dX7_turn_12 : decode cX7_turn 12 = .ok (.aload_n 0, 1) := by decide +kernel
theorem dX7_turn_13 : decode cX7_turn 13 = .ok (.getfield 9, 3) := by decide +kernel
theorem dX7_turn_16 : decode cX7_turn 16 = .ok (.iload 4, 2) := by decide +kernel
theorem dX7_turn_18 : decode cX7_turn 18 = .ok (.iaload, 1) := by decide +kernel
theorem dX7_turn_19 : decode cX7_turn 19 = .ok (.iconst 2, 1) := by decide +kernel
theorem dX7_turn_20 : decode cX7_turn 20 = .ok (.iload_n 2, 1) := by decide +kernel
theorem dX7_turn_21 : decode cX7_turn 21 = .ok (.imul, 1) := by decide +kernel
theorem dX7_turn_22 : decode cX7_turn 22 = .ok (.iload_n 1, 1) := by decide +kernel
theorem dX7_turn_23 : decode cX7_turn 23 = .ok (.iadd, 1) := by decide +kernel
theorem dX7_turn_24 : decode cX7_turn 24 = .ok (.if_icmp .ne 14, 3) := by decide +kernel
theorem dX7_turn_27 : decode cX7_turn 27 = .ok (.aload_n 3, 1) := by decide +kernel
theorem dX7_turn_28 : decode cX7_turn 28 = .ok (.aload_n 0, 1) := by decide +kernel
theorem dX7_turn_29 : decode cX7_turn 29 = .ok (.getfield 15, 3) := by decide +kernel
theorem dX7_turn_32 : decode cX7_turn 32 = .ok (.iload 4, 2) := by decide +kernel
theorem dX7_turn_34 : decode cX7_turn 34 = .ok (.iaload, 1) := by decide +kernel
theorem dX7_turn_35 : decode cX7_turn 35 = .ok (.invokevirtual 25, 3) := by decide +kernel
theorem dX7_turn_38 : decode cX7_turn 38 = .ok (.iinc 4 1, 3) := by decide +kernel
theorem dX7_turn_41 : decode cX7_turn 41 = .ok (.goto (-38), 3) := by decide +kernel
theorem dX7_turn_44 : decode cX7_turn 44 = .ok (.return_, 1) := by decide +kernel
theorem dX7_forget_0 : decode cX7_forget 0 = .ok (.iconst 0, 1) := by decide +kernel
theorem dX7_forget_1 : decode cX7_forget 1 = .ok (.istore_n 3, 1) := by decide +kernel
theorem dX7_forget_2 : decode cX7_forget 2 = .ok (.iconst 0, 1) := by decide +kernel
theorem dX7_forget_3 : decode cX7_forget 3 = .ok (.istore 4, 2) := by decide +kernel
theorem dX7_forget_5 : decode cX7_forget 5 = .ok (.iload 4, 2) := by decide +kernel
theorem dX7_forget_7 : decode cX7_forget 7 = .ok (.aload_n 0, 1) := by decide +kernel
theorem dX7_forget_8 : decode cX7_forget 8 = .ok (.getfield 18, 3) := by decide +kernel
theorem dX7_forget_11 : decode cX7_forget 11 = .ok (.if_icmp .ge 89, 3) := by decide +kernel
theorem dX7_forget_14 : decode cX7_forget 14 = .ok (.aload_n 0, 1) := by decide +kernel
theorem dX7_forget_15 : decode cX7_forget 15 = .ok (.getfield 9, 3) := by decide +kernel
theorem dX7_forget_18 : decode cX7_forget 18 = .ok (.iload 4, 2) := by decide +kernel
theorem dX7_forget_20 : decode cX7_forget 20 = .ok (.iaload, 1) := by decide +kernel
theorem dX7_forget_21 : decode cX7_forget 21 = .ok (.iconst 2, 1) := by decide +kernel
theorem dX7_forget_22 : decode cX7_forget 22 = .ok (.iload_n 2, 1) := by decide +kernel
theorem dX7_forget_23 : decode cX7_forget 23 = .ok (.imul, 1) := by decide +kernel
theorem dX7_forget_24 : decode cX7_forget 24 = .ok (.iload_n 1, 1) := by decide +kernel
theorem dX7_forget_25 : decode cX7_forget 25 = .ok (.iadd, 1) := by decide +kernel
theorem dX7_forget_26 : decode cX7_forget 26 = .ok (.if_icmp .eq 68, 3) := by decide +kernel
theorem dX7_forget_29 : decode cX7_forget 29 = .ok (.aload_n 0, 1) := by decide +kernel
theorem dX7_forget_30 : decode cX7_forget 30 = .ok (.getfield 9, 3) := by decide +kernel
theorem dX7_forget_33 : decode cX7_forget 33 = .ok (.iload_n 3, 1) := by decide +kernel
theorem dX7_forget_34 : decode cX7_forget 34 = .ok (.aload_n 0, 1) := by decide +kernel
theorem dX7_forget_35 : decode cX7_forget 35 = .ok (.getfield 9, 3) := by decide +kernel
theorem dX7_forget_38 : decode cX7_forget 38 = .ok (.iload 4, 2) := by decide +kernel
theorem dX7_forget_40 : decode cX7_forget 40 = .ok (.iaload, 1) := by decide +kernel
theorem dX7_forget_41 : decode cX7_forget 41 = .ok (.iastore, 1) := by decide +kernel
theorem dX7_forget_42 : decode cX7_forget 42 = .ok (.aload_n 0, 1) := by decide +kernel
theorem dX7_forget_43 : decode cX7_forget 43 = .ok (.getfield 15, 3) := by decide +kernel
theorem dX7_forget_46 : decode cX7_forget 46 = .ok (.iload_n 3, 1) := by decide +kernel
theorem dX7_forget_47 : decode cX7_forget 47 = .ok (.aload_n 0, 1) := by decide +kernel
theorem dX7_forget_48 : decode cX7_forget 48 = .ok (.getfield 15, 3) := by decide +kernel
theorem dX7_forget_51 : decode cX7_forget 51 = .ok (.iload 4, 2) := by decide +kernel
theorem dX7_forget_53 : decode cX7_forget 53 = .ok (.iaload, 1) := by decide +kernel
theorem dX7_forget_54 : decode cX7_forget 54 = .ok (.iastore, 1) := by decide +kernel
theorem dX7_forget_55 : decode cX7_forget 55 = .ok (.aload_n 0, 1) := by decide +kernel
theorem dX7_forget_56 : decode cX7_forget 56 = .ok (.iload_n 3, 1) := by decide +kernel
theorem dX7_forget_57 : decode cX7_forget 57 = .ok (.ifCond .eq 17, 3) := by decide +kernel
theorem dX7_forget_60 : decode cX7_forget 60 = .ok (.aload_n 0, 1) := by decide +kernel
theorem dX7_forget_61 : decode cX7_forget 61 = .ok (.getfield 9, 3) := by decide +kernel
theorem dX7_forget_64 : decode cX7_forget 64 = .ok (.iload 4, 2) := by decide +kernel
theorem dX7_forget_66 : decode cX7_forget 66 = .ok (.iaload, 1) := by decide +kernel
theorem dX7_forget_67 : decode cX7_forget 67 = .ok (.aload_n 0, 1) := by decide +kernel
theorem dX7_forget_68 : decode cX7_forget 68 = .ok (.getfield 22, 3) := by decide +kernel
theorem dX7_forget_71 : decode cX7_forget 71 = .ok (.if_icmp .ge 13, 3) := by decide +kernel
theorem dX7_forget_74 : decode cX7_forget 74 = .ok (.aload_n 0, 1) := by decide +kernel
theorem dX7_forget_75 : decode cX7_forget 75 = .ok (.getfield 9, 3) := by decide +kernel
theorem dX7_forget_78 : decode cX7_forget 78 = .ok (.iload 4, 2) := by decide +kernel
theorem dX7_forget_80 : decode cX7_forget 80 = .ok (.iaload, 1) := by decide +kernel
theorem dX7_forget_81 : decode cX7_forget 81 = .ok (.goto 7, 3) := by decide +kernel
theorem dX7_forget_84 : decode cX7_forget 84 = .ok (.aload_n 0, 1) := by decide +kernel
theorem dX7_forget_85 : decode cX7_forget 85 = .ok (.getfield 22, 3) := by decide +kernel
theorem dX7_forget_88 : decode cX7_forget 88 = .ok (.putfield 22, 3) := by decide +kernel
theorem dX7_forget_91 : decode cX7_forget 91 = .ok (.iinc 3 1, 3) := by decide +kernel
theorem dX7_forget_94 : decode cX7_forget 94 = .ok (.iinc 4 1, 3) := by decide +kernel
theorem dX7_forget_97 : decode cX7_forget 97 = .ok (.goto (-92), 3) := by decide +kernel
theorem dX7_forget_100 : decode cX7_forget 100 = .ok (.aload_n 0, 1) := by decide +kernel
theorem dX7_forget_101 : decode cX7_forget 101 = .ok (.iload_n 3, 1) := by decide +kernel
theorem dX7_forget_102 : decode cX7_forget 102 = .ok (.putfield 18, 3) := by decide +kernel
theorem dX7_forget_105 : decode cX7_forget 105 = .ok (.return_, 1) := by decide +kernel
theorem dX8_init_0 : decode cX8_init 0 = .ok (.aload_n 0, 1) := by decide +kernel
theorem dX8_init_1 : decode cX8_init 1 = .ok (.invokespecial 3, 3) := by decide +kernel
theorem dX8_init_4 : decode cX8_init 4 = .ok (.aload_n 0, 1) := by decide +kernel
theorem dX8_init_5 : decode cX8_init 5 = .ok (.iconst 0, 1) := by decide +kernel
theorem dX8_init_6 : decode cX8_init 6 = .ok (.putfield 9, 3) := by decide +kernel
theorem dX8_init_9 : decode cX8_init 9 = .ok (.aload_n 0, 1) := by decide +kernel
theorem dX8_init_10 : decode cX8_init 10 = .ok (.sipush 213, 3) := by decide +kernel
theorem dX8_init_13 : decode cX8_init 13 = .ok (.putfield 15, 3) := by decide +kernel
theorem dX8_init_16 : decode cX8_init 16 = .ok (.aload_n 0, 1) := by decide +kernel
theorem dX8_init_17 : decode cX8_init 17 = .ok (.sipush 213, 3) := by decide +kernel
theorem dX8_init_20 : decode cX8_init 20 = .ok (.putfield 18, 3) := by decide +kernel
theorem dX8_init_23 : decode cX8_init 23 = .ok (.aload_n 0, 1) := by decide +kernel
theorem dX8_init_24 : decode cX8_init 24 = .ok (.iload_n 1, 1) := by decide +kernel
theorem dX8_init_25 : decode cX8_init 25 = .ok (.putfield 21, 3) := by decide +kernel
theorem dX8_init_28 : decode cX8_init 28 = .ok (.return_, 1) := by decide +kernel
theorem dX8_isSent_0 : decode cX8_isSent 0 = .ok (.aload_n 0, 1) := by decide +kernel
theorem dX8_isSent_1 : decode cX8_isSent 1 = .ok (.getfield 24, 3) := by decide +kernel
theorem dX8_isSent_4 : decode cX8_isSent 4 = .ok (.ifnull 18, 3) := by decide +kernel
theorem dX8_isSent_7 : decode cX8_isSent 7 = .ok (.aload_n 0, 1) := by decide +kernel
theorem dX8_isSent_8 : decode cX8_isSent 8 = .ok (.getfield 24, 3) := by decide +kernel
theorem dX8_isSent_11 : decode cX8_isSent 11 = .ok (.getfield 28, 3) := by decide +kernel
theorem dX8_isSent_14 : decode cX8_isSent 14 = .ok (.iconst 1, 1) := by decide +kernel
theorem dX8_isSent_15 : decode cX8_isSent 15 = .ok (.if_icmp .ne 7, 3) := by decide +kernel
theorem dX8_isSent_18 : decode cX8_isSent 18 = .ok (.iconst 1, 1) := by decide +kernel
theorem dX8_isSent_19 : decode cX8_isSent 19 = .ok (.goto 4, 3) := by decide +kernel
theorem dX8_isSent_22 : decode cX8_isSent 22 = .ok (.iconst 0, 1) := by decide +kernel
theorem dX8_isSent_23 : decode cX8_isSent 23 = .ok (.ireturn, 1) := by decide +kernel
theorem dX9_init_0 : decode cX9_init 0 = .ok (.aload_n 0, 1) := by decide +kernel
theorem dX9_init_1 : decode cX9_init 1 = .ok (.invokespecial 3, 3) := by decide +kernel
theorem dX9_init_4 : decode cX9_init 4 = .ok (.aload_n 0, 1) := by decide +kernel
theorem dX9_init_5 : decode cX9_init 5 = .ok (.ldc2_w 9, 3) := by decide +kernel
theorem dX9_init_8 : decode cX9_init 8 = .ok (.putfield 11, 3) := by decide +kernel
theorem dX9_init_11 : decode cX9_init 11 = .ok (.aload_n 0, 1) := by decide +kernel
theorem dX9_init_12 : decode cX9_init 12 = .ok (.iconst 2, 1) := by decide +kernel
theorem dX9_init_13 : decode cX9_init 13 = .ok (.putfield 17, 3) := by decide +kernel
theorem dX9_init_16 : decode cX9_init 16 = .ok (.return_, 1) := by decide +kernel
theorem dX9_copyOf_0 : decode cX9_copyOf 0 = .ok (.aload_n 0, 1) := by decide +kernel
theorem dX9_copyOf_1 : decode cX9_copyOf 1 = .ok (.aload_n 1, 1) := by decide +kernel
theorem dX9_copyOf_2 : decode cX9_copyOf 2 = .ok (.getfield 21, 3) := by decide +kernel
theorem dX9_copyOf_5 : decode cX9_copyOf 5 = .ok (.putfield 21, 3) := by decide +kernel
theorem dX9_copyOf_8 : decode cX9_copyOf 8 = .ok (.aload_n 0, 1) := by decide +kernel
theorem dX9_copyOf_9 : decode cX9_copyOf 9 = .ok (.aload_n 1, 1) := by decide +kernel
theorem dX9_copyOf_10 : decode cX9_copyOf 10 = .ok (.getfield 24, 3) := by decide +kernel
theorem dX9_copyOf_13 : decode cX9_copyOf 13 = .ok (.putfield 24, 3) := by decide +kernel
theorem dX9_copyOf_16 : decode cX9_copyOf 16 = .ok (.aload_n 0, 1) := by decide +kernel
theorem dX9_copyOf_17 : decode cX9_copyOf 17 = .ok (.aload_n 1, 1) := by decide +kernel
theorem dX9_copyOf_18 : decode cX9_copyOf 18 = .ok (.getfield 27, 3) := by decide +kernel
theorem dX9_copyOf_21 : decode cX9_copyOf 21 = .ok (.putfield 27, 3) := by decide +kernel
theorem dX9_copyOf_24 : decode cX9_copyOf 24 = .ok (.aload_n 0, 1) := by decide +kernel
theorem dX9_copyOf_25 : decode cX9_copyOf 25 = .ok (.aload_n 1, 1) := by decide +kernel
theorem dX9_copyOf_26 : decode cX9_copyOf 26 = .ok (.getfield 30, 3) := by decide +kernel
theorem dX9_copyOf_29 : decode cX9_copyOf 29 = .ok (.putfield 30, 3) := by decide +kernel
theorem dX9_copyOf_32 : decode cX9_copyOf 32 = .ok (.aload_n 0, 1) := by decide +kernel
theorem dX9_copyOf_33 : decode cX9_copyOf 33 = .ok (.aload_n 1, 1) := by decide +kernel
theorem dX9_copyOf_34 : decode cX9_copyOf 34 = .ok (.getfield 11, 3) := by decide +kernel
theorem dX9_copyOf_37 : decode cX9_copyOf 37 = .ok (.putfield 11, 3) := by decide +kernel
theorem dX9_copyOf_40 : decode cX9_copyOf 40 = .ok (.aload_n 0, 1) := by decide +kernel
theorem dX9_copyOf_41 : decode cX9_copyOf 41 = .ok (.aload_n 1, 1) := by decide +kernel
theorem dX9_copyOf_42 : decode cX9_copyOf 42 = .ok (.getfield 17, 3) := by decide +kernel
theorem dX9_copyOf_45 : decode cX9_copyOf 45 = .ok (.putfield 17, 3) := by decide +kernel
theorem dX9_copyOf_48 : decode cX9_copyOf 48 = .ok (.return_, 1) := by decide +kernel
theorem dX9_pack_0 : decode cX9_pack 0 = .ok (.iload_n 0, 1) := by decide +kernel
theorem dX9_pack_1 : decode cX9_pack 1 = .ok (.i2l, 1) := by decide +kernel
theorem dX9_pack_2 : decode cX9_pack 2 = .ok (.bipush 59, 2) := by decide +kernel
theorem dX9_pack_4 : decode cX9_pack 4 = .ok (.lshl, 1) := by decide +kernel
theorem dX9_pack_5 : decode cX9_pack 5 = .ok (.iload_n 1, 1) := by decide +kernel
theorem dX9_pack_6 : decode cX9_pack 6 = .ok (.i2l, 1) := by decide +kernel
theorem dX9_pack_7 : decode cX9_pack 7 = .ok (.bipush 55, 2) := by decide +kernel
theorem dX9_pack_9 : decode cX9_pack 9 = .ok (.lshl, 1) := by decide +kernel
theorem dX9_pack_10 : decode cX9_pack 10 = .ok (.lor, 1) := by decide +kernel
theorem dX9_pack_11 : decode cX9_pack 11 = .ok (.lload_n 2, 1) := by decide +kernel
theorem dX9_pack_12 : decode cX9_pack 12 = .ok (.lor, 1) := by decide +kernel
theorem dX9_pack_13 : decode cX9_pack 13 = .ok (.lreturn, 1) := by decide +kernel
theorem dX9_packIam_0 : decode cX9_packIam 0 = .ok (.iload_n 0, 1) := by decide +kernel
theorem dX9_packIam_1 : decode cX9_packIam 1 = .ok (.i2l, 1) := by decide +kernel
theorem dX9_packIam_2 : decode cX9_packIam 2 = .ok (.bipush 52, 2) := by decide +kernel
theorem dX9_packIam_4 : decode cX9_packIam 4 = .ok (.lshl, 1) := by decide +kernel
theorem dX9_packIam_5 : decode cX9_packIam 5 = .ok (.lload_n 1, 1) := by decide +kernel
theorem dX9_packIam_6 : decode cX9_packIam 6 = .ok (.lor, 1) := by decide +kernel
theorem dX9_packIam_7 : decode cX9_packIam 7 = .ok (.lreturn, 1) := by decide +kernel
theorem dX9_typeOf_0 : decode cX9_typeOf 0 = .ok (.lload_n 0, 1) := by decide +kernel
theorem dX9_typeOf_1 : decode cX9_typeOf 1 = .ok (.bipush 59, 2) := by decide +kernel
theorem dX9_typeOf_3 : decode cX9_typeOf 3 = .ok (.lshr, 1) := by decide +kernel
theorem dX9_typeOf_4 : decode cX9_typeOf 4 = .ok (.l2i, 1) := by decide +kernel
theorem dX9_typeOf_5 : decode cX9_typeOf 5 = .ok (.bipush 7, 2) := by decide +kernel
theorem dX9_typeOf_7 : decode cX9_typeOf 7 = .ok (.iand, 1) := by decide +kernel
theorem dX9_typeOf_8 : decode cX9_typeOf 8 = .ok (.ireturn, 1) := by decide +kernel
theorem dX9_circuitOf_0 : decode cX9_circuitOf 0 = .ok (.lload_n 0, 1) := by decide +kernel
theorem dX9_circuitOf_1 : decode cX9_circuitOf 1 = .ok (.bipush 55, 2) := by decide +kernel
theorem dX9_circuitOf_3 : decode cX9_circuitOf 3 = .ok (.lshr, 1) := by decide +kernel
theorem dX9_circuitOf_4 : decode cX9_circuitOf 4 = .ok (.l2i, 1) := by decide +kernel
theorem dX9_circuitOf_5 : decode cX9_circuitOf 5 = .ok (.bipush 15, 2) := by decide +kernel
theorem dX9_circuitOf_7 : decode cX9_circuitOf 7 = .ok (.iand, 1) := by decide +kernel
theorem dX9_circuitOf_8 : decode cX9_circuitOf 8 = .ok (.ireturn, 1) := by decide +kernel
theorem dX9_forwardsOf_0 : decode cX9_forwardsOf 0 = .ok (.lload_n 0, 1) := by decide +kernel
theorem dX9_forwardsOf_1 : decode cX9_forwardsOf 1 = .ok (.bipush 52, 2) := by decide +kernel
theorem dX9_forwardsOf_3 : decode cX9_forwardsOf 3 = .ok (.lshr, 1) := by decide +kernel
theorem dX9_forwardsOf_4 : decode cX9_forwardsOf 4 = .ok (.l2i, 1) := by decide +kernel
theorem dX9_forwardsOf_5 : decode cX9_forwardsOf 5 = .ok (.bipush 7, 2) := by decide +kernel
theorem dX9_forwardsOf_7 : decode cX9_forwardsOf 7 = .ok (.iand, 1) := by decide +kernel
theorem dX9_forwardsOf_8 : decode cX9_forwardsOf 8 = .ok (.ireturn, 1) := by decide +kernel
theorem dX9_keysOf_0 : decode cX9_keysOf 0 = .ok (.lload_n 0, 1) := by decide +kernel
theorem dX9_keysOf_1 : decode cX9_keysOf 1 = .ok (.ldc2_w 33, 3) := by decide +kernel
theorem dX9_keysOf_4 : decode cX9_keysOf 4 = .ok (.land, 1) := by decide +kernel
theorem dX9_keysOf_5 : decode cX9_keysOf 5 = .ok (.lreturn, 1) := by decide +kernel
theorem dX9_causeOf_0 : decode cX9_causeOf 0 = .ok (.lload_n 0, 1) := by decide +kernel
theorem dX9_causeOf_1 : decode cX9_causeOf 1 = .ok (.l2i, 1) := by decide +kernel
theorem dX9_causeOf_2 : decode cX9_causeOf 2 = .ok (.sipush 255, 3) := by decide +kernel
theorem dX9_causeOf_5 : decode cX9_causeOf 5 = .ok (.iand, 1) := by decide +kernel
theorem dX9_causeOf_6 : decode cX9_causeOf 6 = .ok (.ireturn, 1) := by decide +kernel
theorem dX9_sizeOf_0 : decode cX9_sizeOf 0 = .ok (.lload_n 0, 1) := by decide +kernel
theorem dX9_sizeOf_1 : decode cX9_sizeOf 1 = .ok (.ldc2_w 9, 3) := by decide +kernel
theorem dX9_sizeOf_4 : decode cX9_sizeOf 4 = .ok (.lcmp, 1) := by decide +kernel
theorem dX9_sizeOf_5 : decode cX9_sizeOf 5 = .ok (.ifCond .ne 5, 3) := by decide +kernel
theorem dX9_sizeOf_8 : decode cX9_sizeOf 8 = .ok (.iconst 0, 1) := by decide +kernel
theorem dX9_sizeOf_9 : decode cX9_sizeOf 9 = .ok (.ireturn, 1) := by decide +kernel
theorem dX9_sizeOf_10 : decode cX9_sizeOf 10 = .ok (.lload_n 0, 1) := by decide +kernel
theorem dX9_sizeOf_11 : decode cX9_sizeOf 11 = .ok (.invokestatic 35, 3) := by decide +kernel
theorem dX9_sizeOf_14 : decode cX9_sizeOf 14 = .ok (.lookupswitch 38 #[(1, 26), (4, 36)], 26) := by decide +kernel
theorem dX9_sizeOf_40 : decode cX9_sizeOf 40 = .ok (.iconst 4, 1) := by decide +kernel
theorem dX9_sizeOf_41 : decode cX9_sizeOf 41 = .ok (.lload_n 0, 1) := by decide +kernel
theorem dX9_sizeOf_42 : decode cX9_sizeOf 42 = .ok (.invokestatic 39, 3) := by decide +kernel
theorem dX9_sizeOf_45 : decode cX9_sizeOf 45 = .ok (.invokestatic 43, 3) := by decide +kernel
theorem dX9_sizeOf_48 : decode cX9_sizeOf 48 = .ok (.iadd, 1) := by decide +kernel
theorem dX9_sizeOf_49 : decode cX9_sizeOf 49 = .ok (.ireturn, 1) := by decide +kernel
theorem dX9_sizeOf_50 : decode cX9_sizeOf 50 = .ok (.iconst 3, 1) := by decide +kernel
theorem dX9_sizeOf_51 : decode cX9_sizeOf 51 = .ok (.ireturn, 1) := by decide +kernel
theorem dX9_sizeOf_52 : decode cX9_sizeOf 52 = .ok (.iconst 2, 1) := by decide +kernel
theorem dX9_sizeOf_53 : decode cX9_sizeOf 53 = .ok (.ireturn, 1) := by decide +kernel
theorem dX9_byteOf_0 : decode cX9_byteOf 0 = .ok (.iload_n 2, 1) := by decide +kernel
theorem dX9_byteOf_1 : decode cX9_byteOf 1 = .ok (.tableswitch 69 0 3 #[31, 36, 41, 61], 31) := by decide +kernel
theorem dX9_byteOf_32 : decode cX9_byteOf 32 = .ok (.lload_n 0, 1) := by decide +kernel
theorem dX9_byteOf_33 : decode cX9_byteOf 33 = .ok (.invokestatic 46, 3) := by decide +kernel
theorem dX9_byteOf_36 : decode cX9_byteOf 36 = .ok (.ireturn, 1) := by decide +kernel
theorem dX9_byteOf_37 : decode cX9_byteOf 37 = .ok (.lload_n 0, 1) := by decide +kernel
theorem dX9_byteOf_38 : decode cX9_byteOf 38 = .ok (.invokestatic 35, 3) := by decide +kernel
theorem dX9_byteOf_41 : decode cX9_byteOf 41 = .ok (.ireturn, 1) := by decide +kernel
theorem dX9_byteOf_42 : decode cX9_byteOf 42 = .ok (.lload_n 0, 1) := by decide +kernel
theorem dX9_byteOf_43 : decode cX9_byteOf 43 = .ok (.invokestatic 35, 3) := by decide +kernel
theorem dX9_byteOf_46 : decode cX9_byteOf 46 = .ok (.iconst 4, 1) := by decide +kernel
theorem dX9_byteOf_47 : decode cX9_byteOf 47 = .ok (.if_icmp .ne 10, 3) := by decide +kernel
theorem dX9_byteOf_50 : decode cX9_byteOf 50 = .ok (.lload_n 0, 1) := by decide +kernel
theorem dX9_byteOf_51 : decode cX9_byteOf 51 = .ok (.invokestatic 49, 3) := by decide +kernel
theorem dX9_byteOf_54 : decode cX9_byteOf 54 = .ok (.goto 7, 3) := by decide +kernel
theorem dX9_byteOf_57 : decode cX9_byteOf 57 = .ok (.lload_n 0, 1) := by decide +kernel
theorem dX9_byteOf_58 : decode cX9_byteOf 58 = .ok (.invokestatic 52, 3) := by decide +kernel
theorem dX9_byteOf_61 : decode cX9_byteOf 61 = .ok (.ireturn, 1) := by decide +kernel
theorem dX9_byteOf_62 : decode cX9_byteOf 62 = .ok (.lload_n 0, 1) := by decide +kernel
theorem dX9_byteOf_63 : decode cX9_byteOf 63 = .ok (.invokestatic 39, 3) := by decide +kernel
theorem dX9_byteOf_66 : decode cX9_byteOf 66 = .ok (.invokestatic 43, 3) := by decide +kernel
theorem dX9_byteOf_69 : decode cX9_byteOf 69 = .ok (.ireturn, 1) := by decide +kernel
theorem dX9_byteOf_70 : decode cX9_byteOf 70 = .ok (.lload_n 0, 1) := by decide +kernel
theorem dX9_byteOf_71 : decode cX9_byteOf 71 = .ok (.iconst 4, 1) := by decide +kernel
theorem dX9_byteOf_72 : decode cX9_byteOf 72 = .ok (.iload_n 2, 1) := by decide +kernel
theorem dX9_byteOf_73 : decode cX9_byteOf 73 = .ok (.iconst 4, 1) := by decide +kernel
theorem dX9_byteOf_74 : decode cX9_byteOf 74 = .ok (.isub, 1) := by decide +kernel
theorem dX9_byteOf_75 : decode cX9_byteOf 75 = .ok (.imul, 1) := by decide +kernel
theorem dX9_byteOf_76 : decode cX9_byteOf 76 = .ok (.lshr, 1) := by decide +kernel
theorem dX9_byteOf_77 : decode cX9_byteOf 77 = .ok (.l2i, 1) := by decide +kernel
theorem dX9_byteOf_78 : decode cX9_byteOf 78 = .ok (.bipush 15, 2) := by decide +kernel
theorem dX9_byteOf_80 : decode cX9_byteOf 80 = .ok (.iand, 1) := by decide +kernel
theorem dX9_byteOf_81 : decode cX9_byteOf 81 = .ok (.ireturn, 1) := by decide +kernel
theorem dX10_init_0 : decode cX10_init 0 = .ok (.aload_n 0, 1) := by decide +kernel
theorem dX10_init_1 : decode cX10_init 1 = .ok (.invokespecial 3, 3) := by decide +kernel
theorem dX10_init_4 : decode cX10_init 4 = .ok (.aload_n 0, 1) := by decide +kernel
theorem dX10_init_5 : decode cX10_init 5 = .ok (.sipush 256, 3) := by decide +kernel
theorem dX10_init_8 : decode cX10_init 8 = .ok (.newarray .byte, 2) := by decide +kernel
theorem dX10_init_10 : decode cX10_init 10 = .ok (.putfield 9, 3) := by decide +kernel
theorem dX10_init_13 : decode cX10_init 13 = .ok (.aload_n 0, 1) := by decide +kernel
theorem dX10_init_14 : decode cX10_init 14 = .ok (.sipush 256, 3) := by decide +kernel
theorem dX10_init_17 : decode cX10_init 17 = .ok (.newarray .byte, 2) := by decide +kernel
theorem dX10_init_19 : decode cX10_init 19 = .ok (.putfield 15, 3) := by decide +kernel
theorem dX10_init_22 : decode cX10_init 22 = .ok (.return_, 1) := by decide +kernel
theorem dX10_write_0 : decode cX10_write 0 = .ok (.aload_n 0, 1) := by decide +kernel
theorem dX10_write_1 : decode cX10_write 1 = .ok (.iconst 0, 1) := by decide +kernel
theorem dX10_write_2 : decode cX10_write 2 = .ok (.putfield 18, 3) := by decide +kernel
theorem dX10_write_5 : decode cX10_write 5 = .ok (.aload_n 0, 1) := by decide +kernel
theorem dX10_write_6 : decode cX10_write 6 = .ok (.invokevirtual 22, 3) := by decide +kernel
theorem dX10_write_9 : decode cX10_write 9 = .ok (.aload_n 0, 1) := by decide +kernel
theorem dX10_write_10 : decode cX10_write 10 = .ok (.iconst 0, 1) := by decide +kernel
theorem dX10_write_11 : decode cX10_write 11 = .ok (.putfield 25, 3) := by decide +kernel
theorem dX10_write_14 : decode cX10_write 14 = .ok (.aload_n 0, 1) := by decide +kernel
theorem dX10_write_15 : decode cX10_write 15 = .ok (.ldc 28, 2) := by decide +kernel
theorem dX10_write_17 : decode cX10_write 17 = .ok (.putfield 29, 3) := by decide +kernel
theorem dX10_write_20 : decode cX10_write 20 = .ok (.aload_n 0, 1) := by decide +kernel
theorem dX10_write_21 : decode cX10_write 21 = .ok (.aload_n 1, 1) := by decide +kernel
theorem dX10_write_22 : decode cX10_write 22 = .ok (.getfield 32, 3) := by decide +kernel
theorem dX10_write_25 : decode cX10_write 25 = .ok (.bipush 7, 2) := by decide +kernel
theorem dX10_write_27 : decode cX10_write 27 = .ok (.invokevirtual 37, 3) := by decide +kernel
theorem dX10_write_30 : decode cX10_write 30 = .ok (.aload_n 0, 1) := by decide +kernel
theorem dX10_write_31 : decode cX10_write 31 = .ok (.aload_n 1, 1) := by decide +kernel
theorem dX10_write_32 : decode cX10_write 32 = .ok (.getfield 41, 3) := by decide +kernel
theorem dX10_write_35 : decode cX10_write 35 = .ok (.iconst 1, 1) := by decide +kernel
theorem dX10_write_36 : decode cX10_write 36 = .ok (.invokevirtual 37, 3) := by decide +kernel
theorem dX10_write_39 : decode cX10_write 39 = .ok (.aload_n 0, 1) := by decide +kernel
theorem dX10_write_40 : decode cX10_write 40 = .ok (.aload_n 1, 1) := by decide +kernel
theorem dX10_write_41 : decode cX10_write 41 = .ok (.getfield 44, 3) := by decide +kernel
theorem dX10_write_44 : decode cX10_write 44 = .ok (.bipush 7, 2) := by decide +kernel
theorem dX10_write_46 : decode cX10_write 46 = .ok (.invokevirtual 37, 3) := by decide +kernel
theorem dX10_write_49 : decode cX10_write 49 = .ok (.aload_n 0, 1) := by decide +kernel
theorem dX10_write_50 : decode cX10_write 50 = .ok (.aload_n 1, 1) := by decide +kernel
theorem dX10_write_51 : decode cX10_write 51 = .ok (.getfield 47, 3) := by decide +kernel
theorem dX10_write_54 : decode cX10_write 54 = .ok (.iconst 1, 1) := by decide +kernel
theorem dX10_write_55 : decode cX10_write 55 = .ok (.invokevirtual 37, 3) := by decide +kernel
theorem dX10_write_58 : decode cX10_write 58 = .ok (.aload_n 1, 1) := by decide +kernel
theorem dX10_write_59 : decode cX10_write 59 = .ok (.getfield 50, 3) := by decide +kernel
theorem dX10_write_62 : decode cX10_write 62 = .ok (.invokestatic 54, 3) := by decide +kernel
theorem dX10_write_65 : decode cX10_write 65 = .ok (.istore_n 2, 1) := by decide +kernel
theorem dX10_write_66 : decode cX10_write 66 = .ok (.aload_n 0, 1) := by decide +kernel
theorem dX10_write_67 : decode cX10_write 67 = .ok (.iload_n 2, 1) := by decide +kernel
theorem dX10_write_68 : decode cX10_write 68 = .ok (.bipush 6, 2) := by decide +kernel
theorem dX10_write_70 : decode cX10_write 70 = .ok (.invokevirtual 37, 3) := by decide +kernel
theorem dX10_write_73 : decode cX10_write 73 = .ok (.aload_n 0, 1) := by decide +kernel
theorem dX10_write_74 : decode cX10_write 74 = .ok (.iconst 0, 1) := by decide +kernel
theorem dX10_write_75 : decode cX10_write 75 = .ok (.iconst 2, 1) := by decide +kernel
theorem dX10_write_76 : decode cX10_write 76 = .ok (.invokevirtual 37, 3) := by decide +kernel
theorem dX10_write_79 : decode cX10_write 79 = .ok (.iconst 0, 1) := by decide +kernel
theorem dX10_write_80 : decode cX10_write 80 = .ok (.istore_n 3, 1) := by decide +kernel
theorem dX10_write_81 : decode cX10_write 81 = .ok (.iload_n 3, 1) := by decide +kernel
theorem dX10_write_82 : decode cX10_write 82 = .ok (.iload_n 2, 1) := by decide +kernel
theorem dX10_write_83 : decode cX10_write 83 = .ok (.if_icmp .ge 23, 3) := by decide +kernel
theorem dX10_write_86 : decode cX10_write 86 = .ok (.aload_n 0, 1) := by decide +kernel
theorem dX10_write_87 : decode cX10_write 87 = .ok (.aload_n 1, 1) := by decide +kernel
theorem dX10_write_88 : decode cX10_write 88 = .ok (.getfield 50, 3) := by decide +kernel
theorem dX10_write_91 : decode cX10_write 91 = .ok (.iload_n 3, 1) := by decide +kernel
theorem dX10_write_92 : decode cX10_write 92 = .ok (.invokestatic 58, 3) := by decide +kernel
theorem dX10_write_95 : decode cX10_write 95 = .ok (.bipush 8, 2) := by decide +kernel
theorem dX10_write_97 : decode cX10_write 97 = .ok (.invokevirtual 37, 3) := by decide +kernel
theorem dX10_write_100 : decode cX10_write 100 = .ok (.iinc 3 1, 3) := by decide +kernel
theorem dX10_write_103 : decode cX10_write 103 = .ok (.goto (-22), 3) := by decide +kernel
theorem dX10_write_106 : decode cX10_write 106 = .ok (.aload_n 0, 1) := by decide +kernel
theorem dX10_write_107 : decode cX10_write 107 = .ok (.ldc 28, 2) := by decide +kernel
theorem dX10_write_109 : decode cX10_write 109 = .ok (.aload_n 0, 1) := by decide +kernel
theorem dX10_write_110 : decode cX10_write 110 = .ok (.getfield 29, 3) := by decide +kernel
theorem dX10_write_113 : decode cX10_write 113 = .ok (.isub, 1) := by decide +kernel
theorem dX10_write_114 : decode cX10_write 114 = .ok (.bipush 16, 2) := by decide +kernel
theorem dX10_write_116 : decode cX10_write 116 = .ok (.invokevirtual 37, 3) := by decide +kernel
theorem dX10_write_119 : decode cX10_write 119 = .ok (.aload_n 0, 1) := by decide +kernel
theorem dX10_write_120 : decode cX10_write 120 = .ok (.invokevirtual 22, 3) := by decide +kernel
theorem dX10_write_123 : decode cX10_write 123 = .ok (.return_, 1) := by decide +kernel
theorem dX10_putFlag_0 : decode cX10_putFlag 0 = .ok (.iconst 0, 1) := by decide +kernel
theorem dX10_putFlag_1 : decode cX10_putFlag 1 = .ok (.istore_n 1, 1) := by decide +kernel
theorem dX10_putFlag_2 : decode cX10_putFlag 2 = .ok (.iload_n 1, 1) := by decide +kernel
theorem dX10_putFlag_3 : decode cX10_putFlag 3 = .ok (.bipush 8, 2) := by decide +kernel
theorem dX10_putFlag_5 : decode cX10_putFlag 5 = .ok (.if_icmp .ge 28, 3) := by decide +kernel
theorem dX10_putFlag_8 : decode cX10_putFlag 8 = .ok (.aload_n 0, 1) := by decide +kernel
theorem dX10_putFlag_9 : decode cX10_putFlag 9 = .ok (.iload_n 1, 1) := by decide +kernel
theorem dX10_putFlag_10 : decode cX10_putFlag 10 = .ok (.ifCond .eq 9, 3) := by decide +kernel
theorem dX10_putFlag_13 : decode cX10_putFlag 13 = .ok (.iload_n 1, 1) := by decide +kernel
theorem dX10_putFlag_14 : decode cX10_putFlag 14 = .ok (.bipush 7, 2) := by decide +kernel
theorem dX10_putFlag_16 : decode cX10_putFlag 16 = .ok (.if_icmp .ne 7, 3) := by decide +kernel
theorem dX10_putFlag_19 : decode cX10_putFlag 19 = .ok (.iconst 0, 1) := by decide +kernel
theorem dX10_putFlag_20 : decode cX10_putFlag 20 = .ok (.goto 4, 3) := by decide +kernel
theorem dX10_putFlag_23 : decode cX10_putFlag 23 = .ok (.iconst 1, 1) := by decide +kernel
theorem dX10_putFlag_24 : decode cX10_putFlag 24 = .ok (.invokevirtual 62, 3) := by decide +kernel
theorem dX10_putFlag_27 : decode cX10_putFlag 27 = .ok (.iinc 1 1, 3) := by decide +kernel
theorem dX10_putFlag_30 : decode cX10_putFlag 30 = .ok (.goto (-28), 3) := by decide +kernel
theorem dX10_putFlag_33 : decode cX10_putFlag 33 = .ok (.return_, 1) := by decide +kernel
theorem dX10_putBit_0 : decode cX10_putBit 0 = .ok (.aload_n 0, 1) := by decide +kernel
theorem dX10_putBit_1 : decode cX10_putBit 1 = .ok (.getfield 18, 3) := by decide +kernel
theorem dX10_putBit_4 : decode cX10_putBit 4 = .ok (.sipush 256, 3) := by decide +kernel
theorem dX10_putBit_7 : decode cX10_putBit 7 = .ok (.if_icmp .ge 24, 3) := by decide +kernel
theorem dX10_putBit_10 : decode cX10_putBit 10 = .ok (.aload_n 0, 1) := by decide +kernel
theorem dX10_putBit_11 : decode cX10_putBit 11 = .ok (.getfield 9, 3) := by decide +kernel
theorem dX10_putBit_14 : decode cX10_putBit 14 = .ok (.aload_n 0, 1) := by decide +kernel
theorem dX10_putBit_15 : decode cX10_putBit 15 = .ok (.getfield 18, 3) := by decide +kernel
theorem dX10_putBit_18 : decode cX10_putBit 18 = .ok (.iload_n 1, 1) := by decide +kernel
theorem dX10_putBit_19 : decode cX10_putBit 19 = .ok (.i2b, 1) := by decide +kernel
theorem dX10_putBit_20 : decode cX10_putBit 20 = .ok (.bastore, 1) := by decide +kernel
theorem dX10_putBit_21 : decode cX10_putBit 21 = .ok (.aload_n 0, 1) := by decide +kernel
theorem dX10_putBit_22 : decode cX10_putBit 22 = .ok (.dup, 1) := by decide +kernel
theorem dX10_putBit_23 : decode cX10_putBit 23 = .ok (.getfield 18, 3) := by decide +kernel
theorem dX10_putBit_26 : decode cX10_putBit 26 = .ok (.iconst 1, 1) := by decide +kernel
theorem dX10_putBit_27 : decode cX10_putBit 27 = .ok (.iadd, 1) := by decide +kernel
theorem dX10_putBit_28 : decode cX10_putBit 28 = .ok (.putfield 18, 3) := by decide +kernel
theorem dX10_putBit_31 : decode cX10_putBit 31 = .ok (.return_, 1) := by decide +kernel
theorem dX10_put_0 : decode cX10_put 0 = .ok (.iconst 0, 1) := by decide +kernel
theorem dX10_put_1 : decode cX10_put 1 = .ok (.istore_n 3, 1) := by decide +kernel
theorem dX10_put_2 : decode cX10_put 2 = .ok (.iload_n 3, 1) := by decide +kernel
theorem dX10_put_3 : decode cX10_put 3 = .ok (.iload_n 2, 1) := by decide +kernel
theorem dX10_put_4 : decode cX10_put 4 = .ok (.if_icmp .ge 73, 3) := by decide +kernel
theorem dX10_put_7 : decode cX10_put 7 = .ok (.iload_n 1, 1) := by decide +kernel
theorem dX10_put_8 : decode cX10_put 8 = .ok (.iload_n 3, 1) := by decide +kernel
theorem dX10_put_9 : decode cX10_put 9 = .ok (.ishr, 1) := by decide +kernel
theorem dX10_put_10 : decode cX10_put 10 = .ok (.iconst 1, 1) := by decide +kernel
theorem dX10_put_11 : decode cX10_put 11 = .ok (.iand, 1) := by decide +kernel
theorem dX10_put_12 : decode cX10_put 12 = .ok (.istore 4, 2) := by decide +kernel
theorem dX10_put_14 : decode cX10_put 14 = .ok (.aload_n 0, 1) := by decide +kernel
theorem dX10_put_15 : decode cX10_put 15 = .ok (.iload 4, 2) := by decide +kernel
theorem dX10_put_17 : decode cX10_put 17 = .ok (.invokevirtual 62, 3) := by decide +kernel
theorem dX10_put_20 : decode cX10_put 20 = .ok (.aload_n 0, 1) := by decide +kernel
theorem dX10_put_21 : decode cX10_put 21 = .ok (.aload_n 0, 1) := by decide +kernel
theorem dX10_put_22 : decode cX10_put 22 = .ok (.getfield 29, 3) := by decide +kernel
theorem dX10_put_25 : decode cX10_put 25 = .ok (.iload 4, 2) := by decide +kernel
theorem dX10_put_27 : decode cX10_put 27 = .ok (.invokestatic 66, 3) := by decide +kernel
theorem dX10_put_30 : decode cX10_put 30 = .ok (.putfield 29, 3) := by decide +kernel
theorem dX10_put_33 : decode cX10_put 33 = .ok (.aload_n 0, 1) := by decide +kernel
theorem dX10_put_34 : decode cX10_put 34 = .ok (.iload 4, 2) := by decide +kernel
theorem dX10_put_36 : decode cX10_put 36 = .ok (.iconst 1, 1) := by decide +kernel
theorem dX10_put_37 : decode cX10_put 37 = .ok (.if_icmp .ne 12, 3) := by decide +kernel
theorem dX10_put_40 : decode cX10_put 40 = .ok (.aload_n 0, 1) := by decide +kernel
theorem dX10_put_41 : decode cX10_put 41 = .ok (.getfield 25, 3) := by decide +kernel
theorem dX10_put_44 : decode cX10_put 44 = .ok (.iconst 1, 1) := by decide +kernel
theorem dX10_put_45 : decode cX10_put 45 = .ok (.iadd, 1) := by decide +kernel
theorem dX10_put_46 : decode cX10_put 46 = .ok (.goto 4, 3) := by decide +kernel
theorem dX10_put_49 : decode cX10_put 49 = .ok (.iconst 0, 1) := by decide +kernel
theorem dX10_put_50 : decode cX10_put 50 = .ok (.putfield 25, 3) := by decide +kernel
theorem dX10_put_53 : decode cX10_put 53 = .ok (.aload_n 0, 1) := by decide +kernel
theorem dX10_put_54 : decode cX10_put 54 = .ok (.getfield 25, 3) := by decide +kernel
theorem dX10_put_57 : decode cX10_put 57 = .ok (.iconst 5, 1) := by decide +kernel
theorem dX10_put_58 : decode cX10_put 58 = .ok (.if_icmp .ne 13, 3) := by decide +kernel
theorem dX10_put_61 : decode cX10_put 61 = .ok (.aload_n 0, 1) := by decide +kernel
theorem dX10_put_62 : decode cX10_put 62 = .ok (.iconst 0, 1) := by decide +kernel
theorem dX10_put_63 : decode cX10_put 63 = .ok (.invokevirtual 62, 3) := by decide +kernel
theorem dX10_put_66 : decode cX10_put 66 = .ok (.aload_n 0, 1) := by decide +kernel
theorem dX10_put_67 : decode cX10_put 67 = .ok (.iconst 0, 1) := by decide +kernel
theorem dX10_put_68 : decode cX10_put 68 = .ok (.putfield 25, 3) := by decide +kernel
theorem dX10_put_71 : decode cX10_put 71 = .ok (.iinc 3 1, 3) := by decide +kernel
theorem dX10_put_74 : decode cX10_put 74 = .ok (.goto (-72), 3) := by decide +kernel
theorem dX10_put_77 : decode cX10_put 77 = .ok (.return_, 1) := by decide +kernel
theorem dX10_stepCheck_0 : decode cX10_stepCheck 0 = .ok (.iload_n 0, 1) := by decide +kernel
theorem dX10_stepCheck_1 : decode cX10_stepCheck 1 = .ok (.iload_n 1, 1) := by decide +kernel
theorem dX10_stepCheck_2 : decode cX10_stepCheck 2 = .ok (.ixor, 1) := by decide +kernel
theorem dX10_stepCheck_3 : decode cX10_stepCheck 3 = .ok (.iconst 1, 1) := by decide +kernel
theorem dX10_stepCheck_4 : decode cX10_stepCheck 4 = .ok (.iand, 1) := by decide +kernel
theorem dX10_stepCheck_5 : decode cX10_stepCheck 5 = .ok (.iconst 1, 1) := by decide +kernel
theorem dX10_stepCheck_6 : decode cX10_stepCheck 6 = .ok (.if_icmp .ne 12, 3) := by decide +kernel
theorem dX10_stepCheck_9 : decode cX10_stepCheck 9 = .ok (.iload_n 0, 1) := by decide +kernel
theorem dX10_stepCheck_10 : decode cX10_stepCheck 10 = .ok (.iconst 1, 1) := by decide +kernel
theorem dX10_stepCheck_11 : decode cX10_stepCheck 11 = .ok (.ishr, 1) := by decide +kernel
theorem dX10_stepCheck_12 : decode cX10_stepCheck 12 = .ok (.ldc 70, 2) := by decide +kernel
theorem dX10_stepCheck_14 : decode cX10_stepCheck 14 = .ok (.ixor, 1) := by decide +kernel
theorem dX10_stepCheck_15 : decode cX10_stepCheck 15 = .ok (.goto 6, 3) := by decide +kernel
theorem dX10_stepCheck_18 : decode cX10_stepCheck 18 = .ok (.iload_n 0, 1) := by decide +kernel
theorem dX10_stepCheck_19 : decode cX10_stepCheck 19 = .ok (.iconst 1, 1) := by decide +kernel
theorem dX10_stepCheck_20 : decode cX10_stepCheck 20 = .ok (.ishr, 1) := by decide +kernel
theorem dX10_stepCheck_21 : decode cX10_stepCheck 21 = .ok (.ireturn, 1) := by decide +kernel
theorem dX10_turn_0 : decode cX10_turn 0 = .ok (.iload_n 1, 1) := by decide +kernel
theorem dX10_turn_1 : decode cX10_turn 1 = .ok (.ifCond .lt 26, 3) := by decide +kernel
theorem dX10_turn_4 : decode cX10_turn 4 = .ok (.iload_n 1, 1) := by decide +kernel
theorem dX10_turn_5 : decode cX10_turn 5 = .ok (.aload_n 0, 1) := by decide +kernel
theorem dX10_turn_6 : decode cX10_turn 6 = .ok (.getfield 18, 3) := by decide +kernel
theorem dX10_turn_9 : decode cX10_turn 9 = .ok (.if_icmp .ge 18, 3) := by decide +kernel
theorem dX10_turn_12 : decode cX10_turn 12 = .ok (.aload_n 0, 1) := by decide +kernel
theorem dX10_turn_13 : decode cX10_turn 13 = .ok (.getfield 9, 3) := by decide +kernel
theorem dX10_turn_16 : decode cX10_turn 16 = .ok (.iload_n 1, 1) := by decide +kernel
theorem dX10_turn_17 : decode cX10_turn 17 = .ok (.iconst 1, 1) := by decide +kernel
theorem dX10_turn_18 : decode cX10_turn 18 = .ok (.aload_n 0, 1) := by decide +kernel
theorem dX10_turn_19 : decode cX10_turn 19 = .ok (.getfield 9, 3) := by decide +kernel
theorem dX10_turn_22 : decode cX10_turn 22 = .ok (.iload_n 1, 1) := by decide +kernel
theorem dX10_turn_23 : decode cX10_turn 23 = .ok (.baload, 1) := by decide +kernel
theorem dX10_turn_24 : decode cX10_turn 24 = .ok (.isub, 1) := by decide +kernel
theorem dX10_turn_25 : decode cX10_turn 25 = .ok (.i2b, 1) := by decide +kernel
theorem dX10_turn_26 : decode cX10_turn 26 = .ok (.bastore, 1) := by decide +kernel
theorem dX10_turn_27 : decode cX10_turn 27 = .ok (.return_, 1) := by decide +kernel
theorem dX10_read_0 : decode cX10_read 0 = .ok (.aload_n 0, 1) := by decide +kernel
theorem dX10_read_1 : decode cX10_read 1 = .ok (.iconst 0, 1) := by decide +kernel
theorem dX10_read_2 : decode cX10_read 2 = .ok (.invokevirtual 71, 3) := by decide +kernel
theorem dX10_read_5 : decode cX10_read 5 = .ok (.ifCond .eq 19, 3) := by decide +kernel
theorem dX10_read_8 : decode cX10_read 8 = .ok (.aload_n 0, 1) := by decide +kernel
theorem dX10_read_9 : decode cX10_read 9 = .ok (.invokevirtual 75, 3) := by decide +kernel
theorem dX10_read_12 : decode cX10_read 12 = .ok (.ifCond .eq 12, 3) := by decide +kernel
theorem dX10_read_15 : decode cX10_read 15 = .ok (.aload_n 0, 1) := by decide +kernel
theorem dX10_read_16 : decode cX10_read 16 = .ok (.getfield 79, 3) := by decide +kernel
theorem dX10_read_19 : decode cX10_read 19 = .ok (.bipush 40, 2) := by decide +kernel
theorem dX10_read_21 : decode cX10_read 21 = .ok (.if_icmp .ge 5, 3) := by decide +kernel
theorem dX10_read_24 : decode cX10_read 24 = .ok (.iconst 0, 1) := by decide +kernel
theorem dX10_read_25 : decode cX10_read 25 = .ok (.ireturn, 1) := by decide +kernel
theorem dX10_read_26 : decode cX10_read 26 = .ok (.aload_n 0, 1) := by decide +kernel
theorem dX10_read_27 : decode cX10_read 27 = .ok (.bipush 16, 2) := by decide +kernel
theorem dX10_read_29 : decode cX10_read 29 = .ok (.bipush 6, 2) := by decide +kernel
theorem dX10_read_31 : decode cX10_read 31 = .ok (.invokevirtual 82, 3) := by decide +kernel
theorem dX10_read_34 : decode cX10_read 34 = .ok (.istore_n 3, 1) := by decide +kernel
theorem dX10_read_35 : decode cX10_read 35 = .ok (.aload_n 0, 1) := by decide +kernel
theorem dX10_read_36 : decode cX10_read 36 = .ok (.getfield 79, 3) := by decide +kernel
theorem dX10_read_39 : decode cX10_read 39 = .ok (.bipush 40, 2) := by decide +kernel
theorem dX10_read_41 : decode cX10_read 41 = .ok (.bipush 8, 2) := by decide +kernel
theorem dX10_read_43 : decode cX10_read 43 = .ok (.iload_n 3, 1) := by decide +kernel
theorem dX10_read_44 : decode cX10_read 44 = .ok (.imul, 1) := by decide +kernel
theorem dX10_read_45 : decode cX10_read 45 = .ok (.iadd, 1) := by decide +kernel
theorem dX10_read_46 : decode cX10_read 46 = .ok (.if_icmp .eq 5, 3) := by decide +kernel
theorem dX10_read_49 : decode cX10_read 49 = .ok (.iconst 0, 1) := by decide +kernel
theorem dX10_read_50 : decode cX10_read 50 = .ok (.ireturn, 1) := by decide +kernel
theorem dX10_read_51 : decode cX10_read 51 = .ok (.ldc 28, 2) := by decide +kernel
theorem dX10_read_53 : decode cX10_read 53 = .ok (.istore 4, 2) := by decide +kernel
theorem dX10_read_55 : decode cX10_read 55 = .ok (.iconst 0, 1) := by decide +kernel
theorem dX10_read_56 : decode cX10_read 56 = .ok (.istore 5, 2) := by decide +kernel
theorem dX10_read_58 : decode cX10_read 58 = .ok (.iload 5, 2) := by decide +kernel
theorem dX10_read_60 : decode cX10_read 60 = .ok (.aload_n 0, 1) := by decide +kernel
theorem dX10_read_61 : decode cX10_read 61 = .ok (.getfield 79, 3) := by decide +kernel
theorem dX10_read_64 : decode cX10_read 64 = .ok (.bipush 16, 2) := by decide +kernel
theorem dX10_read_66 : decode cX10_read 66 = .ok (.isub, 1) := by decide +kernel
theorem dX10_read_67 : decode cX10_read 67 = .ok (.if_icmp .ge 23, 3) := by decide +kernel
theorem dX10_read_70 : decode cX10_read 70 = .ok (.iload 4, 2) := by decide +kernel
theorem dX10_read_72 : decode cX10_read 72 = .ok (.aload_n 0, 1) := by decide +kernel
theorem dX10_read_73 : decode cX10_read 73 = .ok (.getfield 15, 3) := by decide +kernel
theorem dX10_read_76 : decode cX10_read 76 = .ok (.iload 5, 2) := by decide +kernel
theorem dX10_read_78 : decode cX10_read 78 = .ok (.baload, 1) := by decide +kernel
theorem dX10_read_79 : decode cX10_read 79 = .ok (.invokestatic 66, 3) := by decide +kernel
theorem dX10_read_82 : decode cX10_read 82 = .ok (.istore 4, 2) := by decide +kernel
theorem dX10_read_84 : decode cX10_read 84 = .ok (.iinc 5 1, 3) := by decide +kernel
theorem dX10_read_87 : decode cX10_read 87 = .ok (.goto (-29), 3) := by decide +kernel
theorem dX10_read_90 : decode cX10_read 90 = .ok (.aload_n 0, 1) := by decide +kernel
theorem dX10_read_91 : decode cX10_read 91 = .ok (.aload_n 0, 1) := by decide +kernel
theorem dX10_read_92 : decode cX10_read 92 = .ok (.getfield 79, 3) := by decide +kernel
theorem dX10_read_95 : decode cX10_read 95 = .ok (.bipush 16, 2) := by decide +kernel
theorem dX10_read_97 : decode cX10_read 97 = .ok (.isub, 1) := by decide +kernel
theorem dX10_read_98 : decode cX10_read 98 = .ok (.bipush 16, 2) := by decide +kernel
theorem dX10_read_100 : decode cX10_read 100 = .ok (.invokevirtual 82, 3) := by decide +kernel
theorem dX10_read_103 : decode cX10_read 103 = .ok (.ldc 28, 2) := by decide +kernel
theorem dX10_read_105 : decode cX10_read 105 = .ok (.iload 4, 2) := by decide +kernel
theorem dX10_read_107 : decode cX10_read 107 = .ok (.isub, 1) := by decide +kernel
theorem dX10_read_108 : decode cX10_read 108 = .ok (.if_icmp .eq 5, 3) := by decide +kernel
theorem dX10_read_111 : decode cX10_read 111 = .ok (.iconst 0, 1) := by decide +kernel
theorem dX10_read_112 : decode cX10_read 112 = .ok (.ireturn, 1) := by decide +kernel
theorem dX10_read_113 : decode cX10_read 113 = .ok (.aload_n 1, 1) := by decide +kernel
theorem dX10_read_114 : decode cX10_read 114 = .ok (.aload_n 0, 1) := by decide +kernel
theorem dX10_read_115 : decode cX10_read 115 = .ok (.iconst 0, 1) := by decide +kernel
theorem dX10_read_116 : decode cX10_read 116 = .ok (.bipush 7, 2) := by decide +kernel
theorem dX10_read_118 : decode cX10_read 118 = .ok (.invokevirtual 82, 3) := by decide +kernel
theorem dX10_read_121 : decode cX10_read 121 = .ok (.putfield 32, 3) := by decide +kernel
theorem dX10_read_124 : decode cX10_read 124 = .ok (.aload_n 1, 1) := by decide +kernel
theorem dX10_read_125 : decode cX10_read 125 = .ok (.aload_n 0, 1) := by decide +kernel
theorem dX10_read_126 : decode cX10_read 126 = .ok (.bipush 7, 2) := by decide +kernel
theorem dX10_read_128 : decode cX10_read 128 = .ok (.iconst 1, 1) := by decide +kernel
theorem dX10_read_129 : decode cX10_read 129 = .ok (.invokevirtual 82, 3) := by decide +kernel
theorem dX10_read_132 : decode cX10_read 132 = .ok (.putfield 41, 3) := by decide +kernel
theorem dX10_read_135 : decode cX10_read 135 = .ok (.aload_n 1, 1) := by decide +kernel
theorem dX10_read_136 : decode cX10_read 136 = .ok (.aload_n 0, 1) := by decide +kernel
theorem dX10_read_137 : decode cX10_read 137 = .ok (.bipush 8, 2) := by decide +kernel
theorem dX10_read_139 : decode cX10_read 139 = .ok (.bipush 7, 2) := by decide +kernel
theorem dX10_read_141 : decode cX10_read 141 = .ok (.invokevirtual 82, 3) := by decide +kernel
theorem dX10_read_144 : decode cX10_read 144 = .ok (.putfield 44, 3) := by decide +kernel
theorem dX10_read_147 : decode cX10_read 147 = .ok (.aload_n 1, 1) := by decide +kernel
theorem dX10_read_148 : decode cX10_read 148 = .ok (.aload_n 0, 1) := by decide +kernel
theorem dX10_read_149 : decode cX10_read 149 = .ok (.bipush 15, 2) := by decide +kernel
theorem dX10_read_151 : decode cX10_read 151 = .ok (.iconst 1, 1) := by decide +kernel
theorem dX10_read_152 : decode cX10_read 152 = .ok (.invokevirtual 82, 3) := by decide +kernel
theorem dX10_read_155 : decode cX10_read 155 = .ok (.putfield 47, 3) := by decide +kernel
theorem dX10_read_158 : decode cX10_read 158 = .ok (.aload_n 1, 1) := by decide +kernel
theorem dX10_read_159 : decode cX10_read 159 = .ok (.aload_n 0, 1) := by decide +kernel
theorem dX10_read_160 : decode cX10_read 160 = .ok (.iload_n 3, 1) := by decide +kernel
theorem dX10_read_161 : decode cX10_read 161 = .ok (.iload_n 2, 1) := by decide +kernel
theorem dX10_read_162 : decode cX10_read 162 = .ok (.invokevirtual 85, 3) := by decide +kernel
theorem dX10_read_165 : decode cX10_read 165 = .ok (.putfield 50, 3) := by decide +kernel
theorem dX10_read_168 : decode cX10_read 168 = .ok (.iconst 1, 1) := by decide +kernel
theorem dX10_read_169 : decode cX10_read 169 = .ok (.ireturn, 1) := by decide +kernel
theorem dX10_isFlag_0 : decode cX10_isFlag 0 = .ok (.iload_n 1, 1) := by decide +kernel
theorem dX10_isFlag_1 : decode cX10_isFlag 1 = .ok (.ifCond .lt 14, 3) := by decide +kernel
theorem dX10_isFlag_4 : decode cX10_isFlag 4 = .ok (.iload_n 1, 1) := by decide +kernel
theorem dX10_isFlag_5 : decode cX10_isFlag 5 = .ok (.bipush 8, 2) := by decide +kernel
theorem dX10_isFlag_7 : decode cX10_isFlag 7 = .ok (.iadd, 1) := by decide +kernel
theorem dX10_isFlag_8 : decode cX10_isFlag 8 = .ok (.aload_n 0, 1) := by decide +kernel
theorem dX10_isFlag_9 : decode cX10_isFlag 9 = .ok (.getfield 18, 3) := by decide +kernel
theorem dX10_isFlag_12 : decode cX10_isFlag 12 = .ok (.if_icmp .le 5, 3) := by decide +kernel
theorem dX10_isFlag_15 : decode cX10_isFlag 15 = .ok (.iconst 0, 1) := by decide +kernel
theorem dX10_isFlag_16 : decode cX10_isFlag 16 = .ok (.ireturn, 1) := by decide +kernel
theorem dX10_isFlag_17 : decode cX10_isFlag 17 = .ok (.iconst 0, 1) := by decide +kernel
theorem dX10_isFlag_18 : decode cX10_isFlag 18 = .ok (.istore_n 2, 1) := by decide +kernel
theorem dX10_isFlag_19 : decode cX10_isFlag 19 = .ok (.iload_n 2, 1) := by decide +kernel
theorem dX10_isFlag_20 : decode cX10_isFlag 20 = .ok (.bipush 8, 2) := by decide +kernel
theorem dX10_isFlag_22 : decode cX10_isFlag 22 = .ok (.if_icmp .ge 37, 3) := by decide +kernel
theorem dX10_isFlag_25 : decode cX10_isFlag 25 = .ok (.aload_n 0, 1) := by decide +kernel
theorem dX10_isFlag_26 : decode cX10_isFlag 26 = .ok (.getfield 9, 3) := by decide +kernel
theorem dX10_isFlag_29 : decode cX10_isFlag 29 = .ok (.iload_n 1, 1) := by decide +kernel
theorem dX10_isFlag_30 : decode cX10_isFlag 30 = .ok (.iload_n 2, 1) := by decide +kernel
theorem dX10_isFlag_31 : decode cX10_isFlag 31 = .ok (.iadd, 1) := by decide +kernel
theorem dX10_isFlag_32 : decode cX10_isFlag 32 = .ok (.baload, 1) := by decide +kernel
theorem dX10_isFlag_33 : decode cX10_isFlag 33 = .ok (.iload_n 2, 1) := by decide +kernel
theorem dX10_isFlag_34 : decode cX10_isFlag 34 = .ok (.ifCond .eq 9, 3) := by decide +kernel
theorem dX10_isFlag_37 : decode cX10_isFlag 37 = .ok (.iload_n 2, 1) := by decide +kernel
theorem dX10_isFlag_38 : decode cX10_isFlag 38 = .ok (.bipush 7, 2) := by decide +kernel
theorem dX10_isFlag_40 : decode cX10_isFlag 40 = .ok (.if_icmp .ne 7, 3) := by decide +kernel
theorem dX10_isFlag_43 : decode cX10_isFlag 43 = .ok (.iconst 0, 1) := by decide +kernel
theorem dX10_isFlag_44 : decode cX10_isFlag 44 = .ok (.goto 4, 3) := by decide +kernel
theorem dX10_isFlag_47 : decode cX10_isFlag 47 = .ok (.iconst 1, 1) := by decide +kernel
theorem dX10_isFlag_48 : decode cX10_isFlag 48 = .ok (.if_icmp .eq 5, 3) := by decide +kernel
theorem dX10_isFlag_51 : decode cX10_isFlag 51 = .ok (.iconst 0, 1) := by decide +kernel
theorem dX10_isFlag_52 : decode cX10_isFlag 52 = .ok (.ireturn, 1) := by decide +kernel
theorem dX10_isFlag_53 : decode cX10_isFlag 53 = .ok (.iinc 2 1, 3) := by decide +kernel
theorem dX10_isFlag_56 : decode cX10_isFlag 56 = .ok (.goto (-37), 3) := by decide +kernel
theorem dX10_isFlag_59 : decode cX10_isFlag 59 = .ok (.iconst 1, 1) := by decide +kernel
theorem dX10_isFlag_60 : decode cX10_isFlag 60 = .ok (.ireturn, 1) := by decide +kernel
theorem dX10_readBody_0 : decode cX10_readBody 0 = .ok (.aload_n 0, 1) := by decide +kernel
theorem dX10_readBody_1 : decode cX10_readBody 1 = .ok (.iconst 0, 1) := by decide +kernel
theorem dX10_readBody_2 : decode cX10_readBody 2 = .ok (.putfield 79, 3) := by decide +kernel
theorem dX10_readBody_5 : decode cX10_readBody 5 = .ok (.iconst 0, 1) := by decide +kernel
theorem dX10_readBody_6 : decode cX10_readBody 6 = .ok (.istore_n 1, 1) := by decide +kernel
theorem dX10_readBody_7 : decode cX10_readBody 7 = .ok (.bipush 8, 2) := by decide +kernel
theorem dX10_readBody_9 : decode cX10_readBody 9 = .ok (.istore_n 2, 1) := by decide +kernel
theorem dX10_readBody_10 : decode cX10_readBody 10 = .ok (.iload_n 2, 1) := by decide +kernel
theorem dX10_readBody_11 : decode cX10_readBody 11 = .ok (.bipush 8, 2) := by decide +kernel
theorem dX10_readBody_13 : decode cX10_readBody 13 = .ok (.iadd, 1) := by decide +kernel
theorem dX10_readBody_14 : decode cX10_readBody 14 = .ok (.aload_n 0, 1) := by decide +kernel
theorem dX10_readBody_15 : decode cX10_readBody 15 = .ok (.getfield 18, 3) := by decide +kernel
theorem dX10_readBody_18 : decode cX10_readBody 18 = .ok (.if_icmp .gt 77, 3) := by decide +kernel
theorem dX10_readBody_21 : decode cX10_readBody 21 = .ok (.aload_n 0, 1) := by decide +kernel
theorem dX10_readBody_22 : decode cX10_readBody 22 = .ok (.iload_n 2, 1) := by decide +kernel
theorem dX10_readBody_23 : decode cX10_readBody 23 = .ok (.invokevirtual 71, 3) := by decide +kernel
theorem dX10_readBody_26 : decode cX10_readBody 26 = .ok (.ifCond .eq 5, 3) := by decide +kernel
theorem dX10_readBody_29 : decode cX10_readBody 29 = .ok (.iconst 1, 1) := by decide +kernel
theorem dX10_readBody_30 : decode cX10_readBody 30 = .ok (.ireturn, 1) := by decide +kernel
theorem dX10_readBody_31 : decode cX10_readBody 31 = .ok (.aload_n 0, 1) := by decide +kernel
theorem dX10_readBody_32 : decode cX10_readBody 32 = .ok (.getfield 9, 3) := by decide +kernel
theorem dX10_readBody_35 : decode cX10_readBody 35 = .ok (.iload_n 2, 1) := by decide +kernel
theorem dX10_readBody_36 : decode cX10_readBody 36 = .ok (.baload, 1) := by decide +kernel
theorem dX10_readBody_37 : decode cX10_readBody 37 = .ok (.istore_n 3, 1) := by decide +kernel
theorem dX10_readBody_38 : decode cX10_readBody 38 = .ok (.iload_n 1, 1) := by decide +kernel
theorem dX10_readBody_39 : decode cX10_readBody 39 = .ok (.iconst 5, 1) := by decide +kernel
theorem dX10_readBody_40 : decode cX10_readBody 40 = .ok (.if_icmp .ne 15, 3) := by decide +kernel
theorem dX10_readBody_43 : decode cX10_readBody 43 = .ok (.iload_n 3, 1) := by decide +kernel
theorem dX10_readBody_44 : decode cX10_readBody 44 = .ok (.iconst 1, 1) := by decide +kernel
theorem dX10_readBody_45 : decode cX10_readBody 45 = .ok (.if_icmp .ne 5, 3) := by decide +kernel
theorem dX10_readBody_48 : decode cX10_readBody 48 = .ok (.iconst 0, 1) := by decide +kernel
theorem dX10_readBody_49 : decode cX10_readBody 49 = .ok (.ireturn, 1) := by decide +kernel
theorem dX10_readBody_50 : decode cX10_readBody 50 = .ok (.iconst 0, 1) := by decide +kernel
theorem dX10_readBody_51 : decode cX10_readBody 51 = .ok (.istore_n 1, 1) := by decide +kernel
theorem dX10_readBody_52 : decode cX10_readBody 52 = .ok (.goto 37, 3) := by decide +kernel
theorem dX10_readBody_55 : decode cX10_readBody 55 = .ok (.aload_n 0, 1) := by decide +kernel
theorem dX10_readBody_56 : decode cX10_readBody 56 = .ok (.getfield 15, 3) := by decide +kernel
theorem dX10_readBody_59 : decode cX10_readBody 59 = .ok (.aload_n 0, 1) := by decide +kernel
theorem dX10_readBody_60 : decode cX10_readBody 60 = .ok (.getfield 79, 3) := by decide +kernel
theorem dX10_readBody_63 : decode cX10_readBody 63 = .ok (.iload_n 3, 1) := by decide +kernel
theorem dX10_readBody_64 : decode cX10_readBody 64 = .ok (.i2b, 1) := by decide +kernel
theorem dX10_readBody_65 : decode cX10_readBody 65 = .ok (.bastore, 1) := by decide +kernel
theorem dX10_readBody_66 : decode cX10_readBody 66 = .ok (.aload_n 0, 1) := by decide +kernel
theorem dX10_readBody_67 : decode cX10_readBody 67 = .ok (.dup, 1) := by decide +kernel
theorem dX10_readBody_68 : decode cX10_readBody 68 = .ok (.getfield 79, 3) := by decide +kernel
theorem dX10_readBody_71 : decode cX10_readBody 71 = .ok (.iconst 1, 1) := by decide +kernel
theorem dX10_readBody_72 : decode cX10_readBody 72 = .ok (.iadd, 1) := by decide +kernel
theorem dX10_readBody_73 : decode cX10_readBody 73 = .ok (.putfield 79, 3) := by decide +kernel
theorem dX10_readBody_76 : decode cX10_readBody 76 = .ok (.iload_n 3, 1) := by decide +kernel
theorem dX10_readBody_77 : decode cX10_readBody 77 = .ok (.iconst 1, 1) := by decide +kernel
theorem dX10_readBody_78 : decode cX10_readBody 78 = .ok (.if_icmp .ne 9, 3) := by decide +kernel
theorem dX10_readBody_81 : decode cX10_readBody 81 = .ok (.iload_n 1, 1) := by decide +kernel
theorem dX10_readBody_82 : decode cX10_readBody 82 = .ok (.iconst 1, 1) := by decide +kernel
theorem dX10_readBody_83 : decode cX10_readBody 83 = .ok (.iadd, 1) := by decide +kernel
theorem dX10_readBody_84 : decode cX10_readBody 84 = .ok (.goto 4, 3) := by decide +kernel
theorem dX10_readBody_87 : decode cX10_readBody 87 = .ok (.iconst 0, 1) := by decide +kernel
theorem dX10_readBody_88 : decode cX10_readBody 88 = .ok (.istore_n 1, 1) := by decide +kernel
theorem dX10_readBody_89 : decode cX10_readBody 89 = .ok (.iinc 2 1, 3) := by decide +kernel
