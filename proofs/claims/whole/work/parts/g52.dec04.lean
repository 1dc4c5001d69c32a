theorem dX11_makeCall_28 : decode cX11_makeCall 28 = .ok (.putfield 452, 3) := by decide +kernel
theorem dX11_makeCall_31 : decode cX11_makeCall 31 = .ok (.aload_n 0, 1) := by decide +kernel
theorem dX11_makeCall_32 : decode cX11_makeCall 32 = .ok (.dup, 1) := by decide +kernel
theorem dX11_makeCall_33 : decode cX11_makeCall 33 = .ok (.getfield 306, 3) := by decide +kernel
theorem dX11_makeCall_36 : decode cX11_makeCall 36 = .ok (.iconst 1, 1) := by decide +kernel
theorem dX11_makeCall_37 : decode cX11_makeCall 37 = .ok (.iadd, 1) := by decide +kernel
theorem dX11_makeCall_38 : decode cX11_makeCall 38 = .ok (.putfield 306, 3) := by decide +kernel
theorem dX11_makeCall_41 : decode cX11_makeCall 41 = .ok (.aload_n 0, 1) := by decide +kernel
theorem dX11_makeCall_42 : decode cX11_makeCall 42 = .ok (.dup, 1) := by decide +kernel
theorem dX11_makeCall_43 : decode cX11_makeCall 43 = .ok (.getfield 309, 3) := by decide +kernel
theorem dX11_makeCall_46 : decode cX11_makeCall 46 = .ok (.iconst 1, 1) := by decide +kernel
theorem dX11_makeCall_47 : decode cX11_makeCall 47 = .ok (.iadd, 1) := by decide +kernel
theorem dX11_makeCall_48 : decode cX11_makeCall 48 = .ok (.putfield 309, 3) := by decide +kernel
theorem dX11_makeCall_51 : decode cX11_makeCall 51 = .ok (.aload_n 2, 1) := by decide +kernel
theorem dX11_makeCall_52 : decode cX11_makeCall 52 = .ok (.aload_n 1, 1) := by decide +kernel
theorem dX11_makeCall_53 : decode cX11_makeCall 53 = .ok (.aload_n 0, 1) := by decide +kernel
theorem dX11_makeCall_54 : decode cX11_makeCall 54 = .ok (.getfield 177, 3) := by decide +kernel
theorem dX11_makeCall_57 : decode cX11_makeCall 57 = .ok (.invokevirtual 455, 3) := by decide +kernel
theorem dX11_makeCall_60 : decode cX11_makeCall 60 = .ok (.aload_n 2, 1) := by decide +kernel
theorem dX11_makeCall_61 : decode cX11_makeCall 61 = .ok (.areturn, 1) := by decide +kernel
theorem dX11_sweepCalls_0 : decode cX11_sweepCalls 0 = .ok (.aload_n 0, 1) := by decide +kernel
theorem dX11_sweepCalls_1 : decode cX11_sweepCalls 1 = .ok (.getfield 452, 3) := by decide +kernel
theorem dX11_sweepCalls_4 : decode cX11_sweepCalls 4 = .ok (.aload_n 0, 1) := by decide +kernel
theorem dX11_sweepCalls_5 : decode cX11_sweepCalls 5 = .ok (.getfield 309, 3) := by decide +kernel
theorem dX11_sweepCalls_8 : decode cX11_sweepCalls 8 = .ok (.if_icmp .ne 4, 3) := by decide +kernel
theorem dX11_sweepCalls_11 : decode cX11_sweepCalls 11 = .ok (.return_, 1) := by decide +kernel
theorem dX11_sweepCalls_12 : decode cX11_sweepCalls 12 = .ok (.iconst 0, 1) := by decide +kernel
theorem dX11_sweepCalls_13 : decode cX11_sweepCalls 13 = .ok (.istore_n 1, 1) := by decide +kernel
theorem dX11_sweepCalls_14 : decode cX11_sweepCalls 14 = .ok (.iconst 0, 1) := by decide +kernel
theorem dX11_sweepCalls_15 : decode cX11_sweepCalls 15 = .ok (.istore_n 2, 1) := by decide +kernel
theorem dX11_sweepCalls_16 : decode cX11_sweepCalls 16 = .ok (.iload_n 2, 1) := by decide +kernel
theorem dX11_sweepCalls_17 : decode cX11_sweepCalls 17 = .ok (.aload_n 0, 1) := by decide +kernel
theorem dX11_sweepCalls_18 : decode cX11_sweepCalls 18 = .ok (.getfield 452, 3) := by decide +kernel
theorem dX11_sweepCalls_21 : decode cX11_sweepCalls 21 = .ok (.if_icmp .ge 46, 3) := by decide +kernel
theorem dX11_sweepCalls_24 : decode cX11_sweepCalls 24 = .ok (.aload_n 0, 1) := by decide +kernel
theorem dX11_sweepCalls_25 : decode cX11_sweepCalls 25 = .ok (.getfield 23, 3) := by decide +kernel
theorem dX11_sweepCalls_28 : decode cX11_sweepCalls 28 = .ok (.iload_n 2, 1) := by decide +kernel
theorem dX11_sweepCalls_29 : decode cX11_sweepCalls 29 = .ok (.aaload, 1) := by decide +kernel
theorem dX11_sweepCalls_30 : decode cX11_sweepCalls 30 = .ok (.astore_n 3, 1) := by decide +kernel
theorem dX11_sweepCalls_31 : decode cX11_sweepCalls 31 = .ok (.aload_n 3, 1) := by decide +kernel
theorem dX11_sweepCalls_32 : decode cX11_sweepCalls 32 = .ok (.getfield 210, 3) := by decide +kernel
theorem dX11_sweepCalls_35 : decode cX11_sweepCalls 35 = .ok (.iconst (-1), 1) := by decide +kernel
theorem dX11_sweepCalls_36 : decode cX11_sweepCalls 36 = .ok (.if_icmp .eq 25, 3) := by decide +kernel
theorem dX11_sweepCalls_39 : decode cX11_sweepCalls 39 = .ok (.aload_n 0, 1) := by decide +kernel
theorem dX11_sweepCalls_40 : decode cX11_sweepCalls 40 = .ok (.getfield 23, 3) := by decide +kernel
theorem dX11_sweepCalls_43 : decode cX11_sweepCalls 43 = .ok (.iload_n 2, 1) := by decide +kernel
theorem dX11_sweepCalls_44 : decode cX11_sweepCalls 44 = .ok (.aload_n 0, 1) := by decide +kernel
theorem dX11_sweepCalls_45 : decode cX11_sweepCalls 45 = .ok (.getfield 23, 3) := by decide +kernel
theorem dX11_sweepCalls_48 : decode cX11_sweepCalls 48 = .ok (.iload_n 1, 1) := by decide +kernel
theorem dX11_sweepCalls_49 : decode cX11_sweepCalls 49 = .ok (.aaload, 1) := by decide +kernel
theorem dX11_sweepCalls_50 : decode cX11_sweepCalls 50 = .ok (.aastore, 1) := by decide +kernel
theorem dX11_sweepCalls_51 : decode cX11_sweepCalls 51 = .ok (.aload_n 0, 1) := by decide +kernel
theorem dX11_sweepCalls_52 : decode cX11_sweepCalls 52 = .ok (.getfield 23, 3) := by decide +kernel
theorem dX11_sweepCalls_55 : decode cX11_sweepCalls 55 = .ok (.iload_n 1, 1) := by decide +kernel
theorem dX11_sweepCalls_56 : decode cX11_sweepCalls 56 = .ok (.aload_n 3, 1) := by decide +kernel
theorem dX11_sweepCalls_57 : decode cX11_sweepCalls 57 = .ok (.aastore, 1) := by decide +kernel
theorem dX11_sweepCalls_58 : decode cX11_sweepCalls 58 = .ok (.iinc 1 1, 3) := by decide +kernel
theorem dX11_sweepCalls_61 : decode cX11_sweepCalls 61 = .ok (.iinc 2 1, 3) := by decide +kernel
theorem dX11_sweepCalls_64 : decode cX11_sweepCalls 64 = .ok (.goto (-48), 3) := by decide +kernel
theorem dX11_sweepCalls_67 : decode cX11_sweepCalls 67 = .ok (.aload_n 0, 1) := by decide +kernel
theorem dX11_sweepCalls_68 : decode cX11_sweepCalls 68 = .ok (.iload_n 1, 1) := by decide +kernel
theorem dX11_sweepCalls_69 : decode cX11_sweepCalls 69 = .ok (.putfield 452, 3) := by decide +kernel
theorem dX11_sweepCalls_72 : decode cX11_sweepCalls 72 = .ok (.return_, 1) := by decide +kernel
theorem dX11_enter_0 : decode cX11_enter 0 = .ok (.aload_n 1, 1) := by decide +kernel
theorem dX11_enter_1 : decode cX11_enter 1 = .ok (.iload_n 2, 1) := by decide +kernel
theorem dX11_enter_2 : decode cX11_enter 2 = .ok (.putfield 210, 3) := by decide +kernel
theorem dX11_enter_5 : decode cX11_enter 5 = .ok (.aload_n 1, 1) := by decide +kernel
theorem dX11_enter_6 : decode cX11_enter 6 = .ok (.aload_n 0, 1) := by decide +kernel
theorem dX11_enter_7 : decode cX11_enter 7 = .ok (.getfield 177, 3) := by decide +kernel
theorem dX11_enter_10 : decode cX11_enter 10 = .ok (.putfield 441, 3) := by decide +kernel
theorem dX11_enter_13 : decode cX11_enter 13 = .ok (.return_, 1) := by decide +kernel
theorem dX11_place_0 : decode cX11_place 0 = .ok (.iload_n 2, 1) := by decide +kernel
theorem dX11_place_1 : decode cX11_place 1 = .ok (.istore_n 3, 1) := by decide +kernel
theorem dX11_place_2 : decode cX11_place 2 = .ok (.iconst 0, 1) := by decide +kernel
theorem dX11_place_3 : decode cX11_place 3 = .ok (.istore 4, 2) := by decide +kernel
theorem dX11_place_5 : decode cX11_place 5 = .ok (.iload 4, 2) := by decide +kernel
theorem dX11_place_7 : decode cX11_place 7 = .ok (.bipush 14, 2) := by decide +kernel
theorem dX11_place_9 : decode cX11_place 9 = .ok (.if_icmp .ge 132, 3) := by decide +kernel
theorem dX11_place_12 : decode cX11_place 12 = .ok (.aload_n 1, 1) := by decide +kernel
theorem dX11_place_13 : decode cX11_place 13 = .ok (.getfield 379, 3) := by decide +kernel
theorem dX11_place_16 : decode cX11_place 16 = .ok (.astore 5, 2) := by decide +kernel
theorem dX11_place_18 : decode cX11_place 18 = .ok (.iload_n 3, 1) := by decide +kernel
theorem dX11_place_19 : decode cX11_place 19 = .ok (.bipush (-2), 2) := by decide +kernel
theorem dX11_place_21 : decode cX11_place 21 = .ok (.if_icmp .ne 12, 3) := by decide +kernel
theorem dX11_place_24 : decode cX11_place 24 = .ok (.aload_n 0, 1) := by decide +kernel
theorem dX11_place_25 : decode cX11_place 25 = .ok (.aload_n 1, 1) := by decide +kernel
theorem dX11_place_26 : decode cX11_place 26 = .ok (.invokevirtual 459, 3) := by decide +kernel
theorem dX11_place_29 : decode cX11_place 29 = .ok (.istore_n 3, 1) := by decide +kernel
theorem dX11_place_30 : decode cX11_place 30 = .ok (.goto 105, 3) := by decide +kernel
theorem dX11_place_33 : decode cX11_place 33 = .ok (.iload_n 3, 1) := by decide +kernel
theorem dX11_place_34 : decode cX11_place 34 = .ok (.iconst (-1), 1) := by decide +kernel
theorem dX11_place_35 : decode cX11_place 35 = .ok (.if_icmp .ne 106, 3) := by decide +kernel
theorem dX11_place_38 : decode cX11_place 38 = .ok (.aload 5, 2) := by decide +kernel
theorem dX11_place_40 : decode cX11_place 40 = .ok (.ifnonnull 6, 3) := by decide +kernel
theorem dX11_place_43 : decode cX11_place 43 = .ok (.goto 98, 3) := by decide +kernel
theorem dX11_place_46 : decode cX11_place 46 = .ok (.aload 5, 2) := by decide +kernel
theorem dX11_place_48 : decode cX11_place 48 = .ok (.getfield 462, 3) := by decide +kernel
theorem dX11_place_51 : decode cX11_place 51 = .ok (.ifCond .ne 22, 3) := by decide +kernel
theorem dX11_place_54 : decode cX11_place 54 = .ok (.aload_n 0, 1) := by decide +kernel
theorem dX11_place_55 : decode cX11_place 55 = .ok (.aload_n 1, 1) := by decide +kernel
theorem dX11_place_56 : decode cX11_place 56 = .ok (.aload_n 0, 1) := by decide +kernel
theorem dX11_place_57 : decode cX11_place 57 = .ok (.getfield 17, 3) := by decide +kernel
theorem dX11_place_60 : decode cX11_place 60 = .ok (.aload 5, 2) := by decide +kernel
theorem dX11_place_62 : decode cX11_place 62 = .ok (.getfield 465, 3) := by decide +kernel
theorem dX11_place_65 : decode cX11_place 65 = .ok (.aaload, 1) := by decide +kernel
theorem dX11_place_66 : decode cX11_place 66 = .ok (.invokevirtual 468, 3) := by decide +kernel
theorem dX11_place_69 : decode cX11_place 69 = .ok (.istore_n 3, 1) := by decide +kernel
theorem dX11_place_70 : decode cX11_place 70 = .ok (.goto 65, 3) := by decide +kernel
theorem dX11_place_73 : decode cX11_place 73 = .ok (.aload 5, 2) := by decide +kernel
theorem dX11_place_75 : decode cX11_place 75 = .ok (.getfield 462, 3) := by decide +kernel
theorem dX11_place_78 : decode cX11_place 78 = .ok (.iconst 3, 1) := by decide +kernel
theorem dX11_place_79 : decode cX11_place 79 = .ok (.if_icmp .ne 25, 3) := by decide +kernel
theorem dX11_place_82 : decode cX11_place 82 = .ok (.aload_n 0, 1) := by decide +kernel
theorem dX11_place_83 : decode cX11_place 83 = .ok (.aload_n 1, 1) := by decide +kernel
theorem dX11_place_84 : decode cX11_place 84 = .ok (.aload_n 1, 1) := by decide +kernel
theorem dX11_place_85 : decode cX11_place 85 = .ok (.getfield 444, 3) := by decide +kernel
theorem dX11_place_88 : decode cX11_place 88 = .ok (.getfield 118, 3) := by decide +kernel
theorem dX11_place_91 : decode cX11_place 91 = .ok (.aload 5, 2) := by decide +kernel
theorem dX11_place_93 : decode cX11_place 93 = .ok (.getfield 465, 3) := by decide +kernel
theorem dX11_place_96 : decode cX11_place 96 = .ok (.aaload, 1) := by decide +kernel
theorem dX11_place_97 : decode cX11_place 97 = .ok (.invokevirtual 472, 3) := by decide +kernel
theorem dX11_place_100 : decode cX11_place 100 = .ok (.istore_n 3, 1) := by decide +kernel
theorem dX11_place_101 : decode cX11_place 101 = .ok (.goto 34, 3) := by decide +kernel
theorem dX11_place_104 : decode cX11_place 104 = .ok (.aload 5, 2) := by decide +kernel
theorem dX11_place_106 : decode cX11_place 106 = .ok (.getfield 462, 3) := by decide +kernel
theorem dX11_place_109 : decode cX11_place 109 = .ok (.iconst 4, 1) := by decide +kernel
theorem dX11_place_110 : decode cX11_place 110 = .ok (.if_icmp .ne 17, 3) := by decide +kernel
theorem dX11_place_113 : decode cX11_place 113 = .ok (.aload_n 0, 1) := by decide +kernel
theorem dX11_place_114 : decode cX11_place 114 = .ok (.aload_n 1, 1) := by decide +kernel
theorem dX11_place_115 : decode cX11_place 115 = .ok (.aload 5, 2) := by decide +kernel
theorem dX11_place_117 : decode cX11_place 117 = .ok (.getfield 465, 3) := by decide +kernel
theorem dX11_place_120 : decode cX11_place 120 = .ok (.invokevirtual 476, 3) := by decide +kernel
theorem dX11_place_123 : decode cX11_place 123 = .ok (.istore_n 3, 1) := by decide +kernel
theorem dX11_place_124 : decode cX11_place 124 = .ok (.goto 11, 3) := by decide +kernel
theorem dX11_place_127 : decode cX11_place 127 = .ok (.aload_n 0, 1) := by decide +kernel
theorem dX11_place_128 : decode cX11_place 128 = .ok (.aload_n 1, 1) := by decide +kernel
theorem dX11_place_129 : decode cX11_place 129 = .ok (.aload 5, 2) := by decide +kernel
theorem dX11_place_131 : decode cX11_place 131 = .ok (.invokevirtual 480, 3) := by decide +kernel
theorem dX11_place_134 : decode cX11_place 134 = .ok (.istore_n 3, 1) := by decide +kernel
theorem dX11_place_135 : decode cX11_place 135 = .ok (.iinc 4 1, 3) := by decide +kernel
theorem dX11_place_138 : decode cX11_place 138 = .ok (.goto (-133), 3) := by decide +kernel
theorem dX11_place_141 : decode cX11_place 141 = .ok (.iload_n 3, 1) := by decide +kernel
theorem dX11_place_142 : decode cX11_place 142 = .ok (.bipush (-3), 2) := by decide +kernel
theorem dX11_place_144 : decode cX11_place 144 = .ok (.if_icmp .ne 12, 3) := by decide +kernel
theorem dX11_place_147 : decode cX11_place 147 = .ok (.aload_n 0, 1) := by decide +kernel
theorem dX11_place_148 : decode cX11_place 148 = .ok (.aload_n 1, 1) := by decide +kernel
theorem dX11_place_149 : decode cX11_place 149 = .ok (.invokevirtual 390, 3) := by decide +kernel
theorem dX11_place_152 : decode cX11_place 152 = .ok (.istore_n 3, 1) := by decide +kernel
theorem dX11_place_153 : decode cX11_place 153 = .ok (.goto 20, 3) := by decide +kernel
theorem dX11_place_156 : decode cX11_place 156 = .ok (.iload_n 3, 1) := by decide +kernel
theorem dX11_place_157 : decode cX11_place 157 = .ok (.ifCond .ne 16, 3) := by decide +kernel
theorem dX11_place_160 : decode cX11_place 160 = .ok (.aload_n 1, 1) := by decide +kernel
theorem dX11_place_161 : decode cX11_place 161 = .ok (.getfield 210, 3) := by decide +kernel
theorem dX11_place_164 : decode cX11_place 164 = .ok (.iconst 1, 1) := by decide +kernel
theorem dX11_place_165 : decode cX11_place 165 = .ok (.if_icmp .eq 8, 3) := by decide +kernel
theorem dX11_place_168 : decode cX11_place 168 = .ok (.aload_n 0, 1) := by decide +kernel
theorem dX11_place_169 : decode cX11_place 169 = .ok (.aload_n 1, 1) := by decide +kernel
theorem dX11_place_170 : decode cX11_place 170 = .ok (.invokevirtual 386, 3) := by decide +kernel
theorem dX11_place_173 : decode cX11_place 173 = .ok (.iload_n 3, 1) := by decide +kernel
theorem dX11_place_174 : decode cX11_place 174 = .ok (.ifCond .le 10, 3) := by decide +kernel
theorem dX11_place_177 : decode cX11_place 177 = .ok (.aload_n 0, 1) := by decide +kernel
theorem dX11_place_178 : decode cX11_place 178 = .ok (.aload_n 1, 1) := by decide +kernel
theorem dX11_place_179 : decode cX11_place 179 = .ok (.iload_n 3, 1) := by decide +kernel
theorem dX11_place_180 : decode cX11_place 180 = .ok (.iconst 0, 1) := by decide +kernel
theorem dX11_place_181 : decode cX11_place 181 = .ok (.invokevirtual 375, 3) := by decide +kernel
theorem dX11_place_184 : decode cX11_place 184 = .ok (.return_, 1) := by decide +kernel
theorem dX11_findRowAnew_0 : decode cX11_findRowAnew 0 = .ok (.aload_n 1, 1) := by decide +kernel
theorem dX11_findRowAnew_1 : decode cX11_findRowAnew 1 = .ok (.dup, 1) := by decide +kernel
theorem dX11_findRowAnew_2 : decode cX11_findRowAnew 2 = .ok (.getfield 366, 3) := by decide +kernel
theorem dX11_findRowAnew_5 : decode cX11_findRowAnew 5 = .ok (.iconst 1, 1) := by decide +kernel
theorem dX11_findRowAnew_6 : decode cX11_findRowAnew 6 = .ok (.iadd, 1) := by decide +kernel
theorem dX11_findRowAnew_7 : decode cX11_findRowAnew 7 = .ok (.putfield 366, 3) := by decide +kernel
theorem dX11_findRowAnew_10 : decode cX11_findRowAnew 10 = .ok (.aload_n 1, 1) := by decide +kernel
theorem dX11_findRowAnew_11 : decode cX11_findRowAnew 11 = .ok (.getfield 366, 3) := by decide +kernel
theorem dX11_findRowAnew_14 : decode cX11_findRowAnew 14 = .ok (.iconst 5, 1) := by decide +kernel
theorem dX11_findRowAnew_15 : decode cX11_findRowAnew 15 = .ok (.if_icmp .le 5, 3) := by decide +kernel
theorem dX11_findRowAnew_18 : decode cX11_findRowAnew 18 = .ok (.iconst 2, 1) := by decide +kernel
theorem dX11_findRowAnew_19 : decode cX11_findRowAnew 19 = .ok (.ireturn, 1) := by decide +kernel
theorem dX11_findRowAnew_20 : decode cX11_findRowAnew 20 = .ok (.aload_n 1, 1) := by decide +kernel
theorem dX11_findRowAnew_21 : decode cX11_findRowAnew 21 = .ok (.getfield 444, 3) := by decide +kernel
theorem dX11_findRowAnew_24 : decode cX11_findRowAnew 24 = .ok (.aload_n 1, 1) := by decide +kernel
theorem dX11_findRowAnew_25 : decode cX11_findRowAnew 25 = .ok (.getfield 222, 3) := by decide +kernel
theorem dX11_findRowAnew_28 : decode cX11_findRowAnew 28 = .ok (.invokevirtual 372, 3) := by decide +kernel
theorem dX11_findRowAnew_31 : decode cX11_findRowAnew 31 = .ok (.istore_n 2, 1) := by decide +kernel
theorem dX11_findRowAnew_32 : decode cX11_findRowAnew 32 = .ok (.iload_n 2, 1) := by decide +kernel
theorem dX11_findRowAnew_33 : decode cX11_findRowAnew 33 = .ok (.ifCond .ge 5, 3) := by decide +kernel
theorem dX11_findRowAnew_36 : decode cX11_findRowAnew 36 = .ok (.iconst 1, 1) := by decide +kernel
theorem dX11_findRowAnew_37 : decode cX11_findRowAnew 37 = .ok (.ireturn, 1) := by decide +kernel
theorem dX11_findRowAnew_38 : decode cX11_findRowAnew 38 = .ok (.aload_n 1, 1) := by decide +kernel
theorem dX11_findRowAnew_39 : decode cX11_findRowAnew 39 = .ok (.aload_n 1, 1) := by decide +kernel
theorem dX11_findRowAnew_40 : decode cX11_findRowAnew 40 = .ok (.getfield 444, 3) := by decide +kernel
theorem dX11_findRowAnew_43 : decode cX11_findRowAnew 43 = .ok (.getfield 106, 3) := by decide +kernel
theorem dX11_findRowAnew_46 : decode cX11_findRowAnew 46 = .ok (.iload_n 2, 1) := by decide +kernel
theorem dX11_findRowAnew_47 : decode cX11_findRowAnew 47 = .ok (.aaload, 1) := by decide +kernel
theorem dX11_findRowAnew_48 : decode cX11_findRowAnew 48 = .ok (.putfield 379, 3) := by decide +kernel
theorem dX11_findRowAnew_51 : decode cX11_findRowAnew 51 = .ok (.iconst (-1), 1) := by decide +kernel
theorem dX11_findRowAnew_52 : decode cX11_findRowAnew 52 = .ok (.ireturn, 1) := by decide +kernel
theorem dX11_placeFar_0 : decode cX11_placeFar 0 = .ok (.aload_n 2, 1) := by decide +kernel
theorem dX11_placeFar_1 : decode cX11_placeFar 1 = .ok (.getfield 462, 3) := by decide +kernel
theorem dX11_placeFar_4 : decode cX11_placeFar 4 = .ok (.iconst 2, 1) := by decide +kernel
theorem dX11_placeFar_5 : decode cX11_placeFar 5 = .ok (.if_icmp .ne 7, 3) := by decide +kernel
theorem dX11_placeFar_8 : decode cX11_placeFar 8 = .ok (.iconst 1, 1) := by decide +kernel
theorem dX11_placeFar_9 : decode cX11_placeFar 9 = .ok (.goto 4, 3) := by decide +kernel
theorem dX11_placeFar_12 : decode cX11_placeFar 12 = .ok (.iconst 0, 1) := by decide +kernel
theorem dX11_placeFar_13 : decode cX11_placeFar 13 = .ok (.istore_n 3, 1) := by decide +kernel
theorem dX11_placeFar_14 : decode cX11_placeFar 14 = .ok (.iload_n 3, 1) := by decide +kernel
theorem dX11_placeFar_15 : decode cX11_placeFar 15 = .ok (.ifCond .ne 25, 3) := by decide +kernel
theorem dX11_placeFar_18 : decode cX11_placeFar 18 = .ok (.aload_n 1, 1) := by decide +kernel
theorem dX11_placeFar_19 : decode cX11_placeFar 19 = .ok (.getfield 223, 3) := by decide +kernel
theorem dX11_placeFar_22 : decode cX11_placeFar 22 = .ok (.ifnull 18, 3) := by decide +kernel
theorem dX11_placeFar_25 : decode cX11_placeFar 25 = .ok (.aload_n 1, 1) := by decide +kernel
theorem dX11_placeFar_26 : decode cX11_placeFar 26 = .ok (.getfield 223, 3) := by decide +kernel
theorem dX11_placeFar_29 : decode cX11_placeFar 29 = .ok (.getfield 137, 3) := by decide +kernel
theorem dX11_placeFar_32 : decode cX11_placeFar 32 = .ok (.iconst 1, 1) := by decide +kernel
theorem dX11_placeFar_33 : decode cX11_placeFar 33 = .ok (.baload, 1) := by decide +kernel
theorem dX11_placeFar_34 : decode cX11_placeFar 34 = .ok (.ifCond .eq 6, 3) := by decide +kernel
theorem dX11_placeFar_37 : decode cX11_placeFar 37 = .ok (.bipush 8, 2) := by decide +kernel
theorem dX11_placeFar_39 : decode cX11_placeFar 39 = .ok (.ireturn, 1) := by decide +kernel
theorem dX11_placeFar_40 : decode cX11_placeFar 40 = .ok (.aload_n 1, 1) := by decide +kernel
theorem dX11_placeFar_41 : decode cX11_placeFar 41 = .ok (.getfield 444, 3) := by decide +kernel
theorem dX11_placeFar_44 : decode cX11_placeFar 44 = .ok (.iload_n 3, 1) := by decide +kernel
theorem dX11_placeFar_45 : decode cX11_placeFar 45 = .ok (.ifCond .eq 7, 3) := by decide +kernel
theorem dX11_placeFar_48 : decode cX11_placeFar 48 = .ok (.iconst 0, 1) := by decide +kernel
theorem dX11_placeFar_49 : decode cX11_placeFar 49 = .ok (.goto 7, 3) := by decide +kernel
theorem dX11_placeFar_52 : decode cX11_placeFar 52 = .ok (.aload_n 0, 1) := by decide +kernel
theorem dX11_placeFar_53 : decode cX11_placeFar 53 = .ok (.getfield 59, 3) := by decide +kernel
theorem dX11_placeFar_56 : decode cX11_placeFar 56 = .ok (.invokevirtual 484, 3) := by decide +kernel
theorem dX11_placeFar_59 : decode cX11_placeFar 59 = .ok (.astore 4, 2) := by decide +kernel
theorem dX11_placeFar_61 : decode cX11_placeFar 61 = .ok (.aload 4, 2) := by decide +kernel
theorem dX11_placeFar_63 : decode cX11_placeFar 63 = .ok (.ifnonnull 5, 3) := by decide +kernel
theorem dX11_placeFar_66 : decode cX11_placeFar 66 = .ok (.iconst 3, 1) := by decide +kernel
theorem dX11_placeFar_67 : decode cX11_placeFar 67 = .ok (.ireturn, 1) := by decide +kernel
theorem dX11_placeFar_68 : decode cX11_placeFar 68 = .ok (.aload 4, 2) := by decide +kernel
theorem dX11_placeFar_70 : decode cX11_placeFar 70 = .ok (.iconst 1, 1) := by decide +kernel
theorem dX11_placeFar_71 : decode cX11_placeFar 71 = .ok (.putfield 250, 3) := by decide +kernel
theorem dX11_placeFar_74 : decode cX11_placeFar 74 = .ok (.aload 4, 2) := by decide +kernel
theorem dX11_placeFar_76 : decode cX11_placeFar 76 = .ok (.aload_n 1, 1) := by decide +kernel
theorem dX11_placeFar_77 : decode cX11_placeFar 77 = .ok (.putfield 352, 3) := by decide +kernel
theorem dX11_placeFar_80 : decode cX11_placeFar 80 = .ok (.aload_n 1, 1) := by decide +kernel
theorem dX11_placeFar_81 : decode cX11_placeFar 81 = .ok (.aload 4, 2) := by decide +kernel
theorem dX11_placeFar_83 : decode cX11_placeFar 83 = .ok (.putfield 240, 3) := by decide +kernel
theorem dX11_placeFar_86 : decode cX11_placeFar 86 = .ok (.aload_n 0, 1) := by decide +kernel
theorem dX11_placeFar_87 : decode cX11_placeFar 87 = .ok (.aload_n 1, 1) := by decide +kernel
theorem dX11_placeFar_88 : decode cX11_placeFar 88 = .ok (.iconst 1, 1) := by decide +kernel
theorem dX11_placeFar_89 : decode cX11_placeFar 89 = .ok (.invokevirtual 383, 3) := by decide +kernel
theorem dX11_placeFar_92 : decode cX11_placeFar 92 = .ok (.aload_n 1, 1) := by decide +kernel
theorem dX11_placeFar_93 : decode cX11_placeFar 93 = .ok (.getfield 366, 3) := by decide +kernel
theorem dX11_placeFar_96 : decode cX11_placeFar 96 = .ok (.aload_n 1, 1) := by decide +kernel
theorem dX11_placeFar_97 : decode cX11_placeFar 97 = .ok (.getfield 222, 3) := by decide +kernel
theorem dX11_placeFar_100 : decode cX11_placeFar 100 = .ok (.aload_n 2, 1) := by decide +kernel
theorem dX11_placeFar_101 : decode cX11_placeFar 101 = .ok (.getfield 465, 3) := by decide +kernel
theorem dX11_placeFar_104 : decode cX11_placeFar 104 = .ok (.invokestatic 488, 3) := by decide +kernel
theorem dX11_placeFar_107 : decode cX11_placeFar 107 = .ok (.invokestatic 491, 3) := by decide +kernel
theorem dX11_placeFar_110 : decode cX11_placeFar 110 = .ok (.lstore 5, 2) := by decide +kernel
theorem dX11_placeFar_112 : decode cX11_placeFar 112 = .ok (.aload_n 1, 1) := by decide +kernel
theorem dX11_placeFar_113 : decode cX11_placeFar 113 = .ok (.getfield 444, 3) := by decide +kernel
theorem dX11_placeFar_116 : decode cX11_placeFar 116 = .ok (.getfield 261, 3) := by decide +kernel
theorem dX11_placeFar_119 : decode cX11_placeFar 119 = .ok (.iconst 1, 1) := by decide +kernel
theorem dX11_placeFar_120 : decode cX11_placeFar 120 = .ok (.aload 4, 2) := by decide +kernel
theorem dX11_placeFar_122 : decode cX11_placeFar 122 = .ok (.getfield 320, 3) := by decide +kernel
theorem dX11_placeFar_125 : decode cX11_placeFar 125 = .ok (.lload 5, 2) := by decide +kernel
theorem dX11_placeFar_127 : decode cX11_placeFar 127 = .ok (.invokestatic 404, 3) := by decide +kernel
theorem dX11_placeFar_130 : decode cX11_placeFar 130 = .ok (.invokevirtual 408, 3) := by decide +kernel
theorem dX11_placeFar_133 : decode cX11_placeFar 133 = .ok (.iconst 0, 1) := by decide +kernel
theorem dX11_placeFar_134 : decode cX11_placeFar 134 = .ok (.ireturn, 1) := by decide +kernel
theorem dX11_placeToLine_0 : decode cX11_placeToLine 0 = .ok (.aload_n 2, 1) := by decide +kernel
theorem dX11_placeToLine_1 : decode cX11_placeToLine 1 = .ok (.getfield 137, 3) := by decide +kernel
theorem dX11_placeToLine_4 : decode cX11_placeToLine 4 = .ok (.iconst 0, 1) := by decide +kernel
theorem dX11_placeToLine_5 : decode cX11_placeToLine 5 = .ok (.baload, 1) := by decide +kernel
theorem dX11_placeToLine_6 : decode cX11_placeToLine 6 = .ok (.ifCond .eq 6, 3) := by decide +kernel
theorem dX11_placeToLine_9 : decode cX11_placeToLine 9 = .ok (.bipush 8, 2) := by decide +kernel
theorem dX11_placeToLine_11 : decode cX11_placeToLine 11 = .ok (.ireturn, 1) := by decide +kernel
theorem dX11_placeToLine_12 : decode cX11_placeToLine 12 = .ok (.aload_n 2, 1) := by decide +kernel
theorem dX11_placeToLine_13 : decode cX11_placeToLine 13 = .ok (.getfield 141, 3) := by decide +kernel
theorem dX11_placeToLine_16 : decode cX11_placeToLine 16 = .ok (.iconst 0, 1) := by decide +kernel
theorem dX11_placeToLine_17 : decode cX11_placeToLine 17 = .ok (.laload, 1) := by decide +kernel
theorem dX11_placeToLine_18 : decode cX11_placeToLine 18 = .ok (.lconst 0, 1) := by decide +kernel
theorem dX11_placeToLine_19 : decode cX11_placeToLine 19 = .ok (.lcmp, 1) := by decide +kernel
theorem dX11_placeToLine_20 : decode cX11_placeToLine 20 = .ok (.ifCond .eq 16, 3) := by decide +kernel
theorem dX11_placeToLine_23 : decode cX11_placeToLine 23 = .ok (.aload_n 1, 1) := by decide +kernel
theorem dX11_placeToLine_24 : decode cX11_placeToLine 24 = .ok (.aload_n 2, 1) := by decide +kernel
theorem dX11_placeToLine_25 : decode cX11_placeToLine 25 = .ok (.getfield 141, 3) := by decide +kernel
theorem dX11_placeToLine_28 : decode cX11_placeToLine 28 = .ok (.iconst 0, 1) := by decide +kernel
theorem dX11_placeToLine_29 : decode cX11_placeToLine 29 = .ok (.laload, 1) := by decide +kernel
theorem dX11_placeToLine_30 : decode cX11_placeToLine 30 = .ok (.putfield 222, 3) := by decide +kernel
theorem dX11_placeToLine_33 : decode cX11_placeToLine 33 = .ok (.bipush (-2), 2) := by decide +kernel
theorem dX11_placeToLine_35 : decode cX11_placeToLine 35 = .ok (.ireturn, 1) := by decide +kernel
theorem dX11_placeToLine_36 : decode cX11_placeToLine 36 = .ok (.aload_n 1, 1) := by decide +kernel
theorem dX11_placeToLine_37 : decode cX11_placeToLine 37 = .ok (.aconst_null, 1) := by decide +kernel
theorem dX11_placeToLine_38 : decode cX11_placeToLine 38 = .ok (.putfield 495, 3) := by decide +kernel
theorem dX11_placeToLine_41 : decode cX11_placeToLine 41 = .ok (.aload_n 2, 1) := by decide +kernel
theorem dX11_placeToLine_42 : decode cX11_placeToLine 42 = .ok (.invokevirtual 499, 3) := by decide +kernel
theorem dX11_placeToLine_45 : decode cX11_placeToLine 45 = .ok (.ifCond .eq 11, 3) := by decide +kernel
theorem dX11_placeToLine_48 : decode cX11_placeToLine 48 = .ok (.aload_n 0, 1) := by decide +kernel
theorem dX11_placeToLine_49 : decode cX11_placeToLine 49 = .ok (.aload_n 1, 1) := by decide +kernel
theorem dX11_placeToLine_50 : decode cX11_placeToLine 50 = .ok (.aload_n 2, 1) := by decide +kernel
theorem dX11_placeToLine_51 : decode cX11_placeToLine 51 = .ok (.invokevirtual 502, 3) := by decide +kernel
theorem dX11_placeToLine_54 : decode cX11_placeToLine 54 = .ok (.iconst 0, 1) := by decide +kernel
theorem dX11_placeToLine_55 : decode cX11_placeToLine 55 = .ok (.ireturn, 1) := by decide +kernel
theorem dX11_placeToLine_56 : decode cX11_placeToLine 56 = .ok (.aload_n 2, 1) := by decide +kernel
theorem dX11_placeToLine_57 : decode cX11_placeToLine 57 = .ok (.invokevirtual 506, 3) := by decide +kernel
theorem dX11_placeToLine_60 : decode cX11_placeToLine 60 = .ok (.ifCond .eq 21, 3) := by decide +kernel
theorem dX11_placeToLine_63 : decode cX11_placeToLine 63 = .ok (.aload_n 2, 1) := by decide +kernel
theorem dX11_placeToLine_64 : decode cX11_placeToLine 64 = .ok (.aload_n 1, 1) := by decide +kernel
theorem dX11_placeToLine_65 : decode cX11_placeToLine 65 = .ok (.putfield 213, 3) := by decide +kernel
theorem dX11_placeToLine_68 : decode cX11_placeToLine 68 = .ok (.aload_n 1, 1) := by decide +kernel
theorem dX11_placeToLine_69 : decode cX11_placeToLine 69 = .ok (.aload_n 2, 1) := by decide +kernel
theorem dX11_placeToLine_70 : decode cX11_placeToLine 70 = .ok (.putfield 237, 3) := by decide +kernel
theorem dX11_placeToLine_73 : decode cX11_placeToLine 73 = .ok (.aload_n 0, 1) := by decide +kernel
theorem dX11_placeToLine_74 : decode cX11_placeToLine 74 = .ok (.aload_n 1, 1) := by decide +kernel
theorem dX11_placeToLine_75 : decode cX11_placeToLine 75 = .ok (.iconst 2, 1) := by decide +kernel
theorem dX11_placeToLine_76 : decode cX11_placeToLine 76 = .ok (.invokevirtual 383, 3) := by decide +kernel
theorem dX11_placeToLine_79 : decode cX11_placeToLine 79 = .ok (.iconst 0, 1) := by decide +kernel
theorem dX11_placeToLine_80 : decode cX11_placeToLine 80 = .ok (.ireturn, 1) := by decide +kernel
theorem dX11_placeToLine_81 : decode cX11_placeToLine 81 = .ok (.aload_n 2, 1) := by decide +kernel
theorem dX11_placeToLine_82 : decode cX11_placeToLine 82 = .ok (.getfield 141, 3) := by decide +kernel
theorem dX11_placeToLine_85 : decode cX11_placeToLine 85 = .ok (.iconst 1, 1) := by decide +kernel
theorem dX11_placeToLine_86 : decode cX11_placeToLine 86 = .ok (.laload, 1) := by decide +kernel
theorem dX11_placeToLine_87 : decode cX11_placeToLine 87 = .ok (.lconst 0, 1) := by decide +kernel
theorem dX11_placeToLine_88 : decode cX11_placeToLine 88 = .ok (.lcmp, 1) := by decide +kernel
theorem dX11_placeToLine_89 : decode cX11_placeToLine 89 = .ok (.ifCond .eq 16, 3) := by decide +kernel
theorem dX11_placeToLine_92 : decode cX11_placeToLine 92 = .ok (.aload_n 1, 1) := by decide +kernel
theorem dX11_placeToLine_93 : decode cX11_placeToLine 93 = .ok (.aload_n 2, 1) := by decide +kernel
theorem dX11_placeToLine_94 : decode cX11_placeToLine 94 = .ok (.getfield 141, 3) := by decide +kernel
theorem dX11_placeToLine_97 : decode cX11_placeToLine 97 = .ok (.iconst 1, 1) := by decide +kernel
theorem dX11_placeToLine_98 : decode cX11_placeToLine 98 = .ok (.laload, 1) := by decide +kernel
theorem dX11_placeToLine_99 : decode cX11_placeToLine 99 = .ok (.putfield 222, 3) := by decide +kernel
theorem dX11_placeToLine_102 : decode cX11_placeToLine 102 = .ok (.bipush (-2), 2) := by decide +kernel
theorem dX11_placeToLine_104 : decode cX11_placeToLine 104 = .ok (.ireturn, 1) := by decide +kernel
theorem dX11_placeToLine_105 : decode cX11_placeToLine 105 = .ok (.iconst 2, 1) := by decide +kernel
theorem dX11_placeToLine_106 : decode cX11_placeToLine 106 = .ok (.ireturn, 1) := by decide +kernel
theorem dX11_placeToGroup_0 : decode cX11_placeToGroup 0 = .ok (.aload_n 1, 1) := by decide +kernel
theorem dX11_placeToGroup_1 : decode cX11_placeToGroup 1 = .ok (.aload_n 2, 1) := by decide +kernel
theorem dX11_placeToGroup_2 : decode cX11_placeToGroup 2 = .ok (.putfield 495, 3) := by decide +kernel
theorem dX11_placeToGroup_5 : decode cX11_placeToGroup 5 = .ok (.aload_n 2, 1) := by decide +kernel
theorem dX11_placeToGroup_6 : decode cX11_placeToGroup 6 = .ok (.getfield 254, 3) := by decide +kernel
theorem dX11_placeToGroup_9 : decode cX11_placeToGroup 9 = .ok (.ifCond .ne 10, 3) := by decide +kernel
theorem dX11_placeToGroup_12 : decode cX11_placeToGroup 12 = .ok (.aload_n 2, 1) := by decide +kernel
theorem dX11_placeToGroup_13 : decode cX11_placeToGroup 13 = .ok (.invokevirtual 509, 3) := by decide +kernel
theorem dX11_placeToGroup_16 : decode cX11_placeToGroup 16 = .ok (.goto 4, 3) := by decide +kernel
theorem dX11_placeToGroup_19 : decode cX11_placeToGroup 19 = .ok (.aconst_null, 1) := by decide +kernel
theorem dX11_placeToGroup_20 : decode cX11_placeToGroup 20 = .ok (.astore_n 3, 1) := by decide +kernel
theorem dX11_placeToGroup_21 : decode cX11_placeToGroup 21 = .ok (.aload_n 3, 1) := by decide +kernel
theorem dX11_placeToGroup_22 : decode cX11_placeToGroup 22 = .ok (.ifnull 11, 3) := by decide +kernel
theorem dX11_placeToGroup_25 : decode cX11_placeToGroup 25 = .ok (.aload_n 0, 1) := by decide +kernel
theorem dX11_placeToGroup_26 : decode cX11_placeToGroup 26 = .ok (.aload_n 1, 1) := by decide +kernel
theorem dX11_placeToGroup_27 : decode cX11_placeToGroup 27 = .ok (.aload_n 3, 1) := by decide +kernel
theorem dX11_placeToGroup_28 : decode cX11_placeToGroup 28 = .ok (.invokevirtual 502, 3) := by decide +kernel
theorem dX11_placeToGroup_31 : decode cX11_placeToGroup 31 = .ok (.iconst 0, 1) := by decide +kernel
theorem dX11_placeToGroup_32 : decode cX11_placeToGroup 32 = .ok (.ireturn, 1) := by decide +kernel
theorem dX11_placeToGroup_33 : decode cX11_placeToGroup 33 = .ok (.aload_n 2, 1) := by decide +kernel
theorem dX11_placeToGroup_34 : decode cX11_placeToGroup 34 = .ok (.getfield 254, 3) := by decide +kernel
theorem dX11_placeToGroup_37 : decode cX11_placeToGroup 37 = .ok (.aload_n 2, 1) := by decide +kernel
theorem dX11_placeToGroup_38 : decode cX11_placeToGroup 38 = .ok (.getfield 134, 3) := by decide +kernel
theorem dX11_placeToGroup_41 : decode cX11_placeToGroup 41 = .ok (.if_icmp .lt 5, 3) := by decide +kernel
theorem dX11_placeToGroup_44 : decode cX11_placeToGroup 44 = .ok (.iconst 2, 1) := by decide +kernel
theorem dX11_placeToGroup_45 : decode cX11_placeToGroup 45 = .ok (.ireturn, 1) := by decide +kernel
theorem dX11_placeToGroup_46 : decode cX11_placeToGroup 46 = .ok (.aload_n 0, 1) := by decide +kernel
theorem dX11_placeToGroup_47 : decode cX11_placeToGroup 47 = .ok (.aload_n 1, 1) := by decide +kernel
theorem dX11_placeToGroup_48 : decode cX11_placeToGroup 48 = .ok (.iconst 4, 1) := by decide +kernel
theorem dX11_placeToGroup_49 : decode cX11_placeToGroup 49 = .ok (.invokevirtual 383, 3) := by decide +kernel
theorem dX11_placeToGroup_52 : decode cX11_placeToGroup 52 = .ok (.aload_n 2, 1) := by decide +kernel
theorem dX11_placeToGroup_53 : decode cX11_placeToGroup 53 = .ok (.aload_n 1, 1) := by decide +kernel
theorem dX11_placeToGroup_54 : decode cX11_placeToGroup 54 = .ok (.iconst 0, 1) := by decide +kernel
theorem dX11_placeToGroup_55 : decode cX11_placeToGroup 55 = .ok (.invokevirtual 513, 3) := by decide +kernel
theorem dX11_placeToGroup_58 : decode cX11_placeToGroup 58 = .ok (.iconst 0, 1) := by decide +kernel
theorem dX11_placeToGroup_59 : decode cX11_placeToGroup 59 = .ok (.ireturn, 1) := by decide +kernel
theorem dX11_placeToRoom_0 : decode cX11_placeToRoom 0 = .ok (.aload_n 1, 1) := by decide +kernel
theorem dX11_placeToRoom_1 : decode cX11_placeToRoom 1 = .ok (.getfield 444, 3) := by decide +kernel
theorem dX11_placeToRoom_4 : decode cX11_placeToRoom 4 = .ok (.getfield 257, 3) := by decide +kernel
theorem dX11_placeToRoom_7 : decode cX11_placeToRoom 7 = .ok (.iload_n 2, 1) := by decide +kernel
theorem dX11_placeToRoom_8 : decode cX11_placeToRoom 8 = .ok (.iaload, 1) := by decide +kernel
theorem dX11_placeToRoom_9 : decode cX11_placeToRoom 9 = .ok (.bipush 8, 2) := by decide +kernel
theorem dX11_placeToRoom_11 : decode cX11_placeToRoom 11 = .ok (.if_icmp .lt 5, 3) := by decide +kernel
theorem dX11_placeToRoom_14 : decode cX11_placeToRoom 14 = .ok (.iconst 2, 1) := by decide +kernel
theorem dX11_placeToRoom_15 : decode cX11_placeToRoom 15 = .ok (.ireturn, 1) := by decide +kernel
theorem dX11_placeToRoom_16 : decode cX11_placeToRoom 16 = .ok (.aload_n 1, 1) := by decide +kernel
theorem dX11_placeToRoom_17 : decode cX11_placeToRoom 17 = .ok (.iload_n 2, 1) := by decide +kernel
theorem dX11_placeToRoom_18 : decode cX11_placeToRoom 18 = .ok (.putfield 234, 3) := by decide +kernel
theorem dX11_placeToRoom_21 : decode cX11_placeToRoom 21 = .ok (.aload_n 1, 1) := by decide +kernel
theorem dX11_placeToRoom_22 : decode cX11_placeToRoom 22 = .ok (.getfield 444, 3) := by decide +kernel
theorem dX11_placeToRoom_25 : decode cX11_placeToRoom 25 = .ok (.getfield 257, 3) := by decide +kernel
theorem dX11_placeToRoom_28 : decode cX11_placeToRoom 28 = .ok (.iload_n 2, 1) := by decide +kernel
theorem dX11_placeToRoom_29 : decode cX11_placeToRoom 29 = .ok (.dup2, 1) := by decide +kernel
theorem dX11_placeToRoom_30 : decode cX11_placeToRoom 30 = .ok (.iaload, 1) := by decide +kernel
theorem dX11_placeToRoom_31 : decode cX11_placeToRoom 31 = .ok (.iconst 1, 1) := by decide +kernel
theorem dX11_placeToRoom_32 : decode cX11_placeToRoom 32 = .ok (.iadd, 1) := by decide +kernel
theorem dX11_placeToRoom_33 : decode cX11_placeToRoom 33 = .ok (.iastore, 1) := by decide +kernel
theorem dX11_placeToRoom_34 : decode cX11_placeToRoom 34 = .ok (.bipush (-3), 2) := by decide +kernel
theorem dX11_placeToRoom_36 : decode cX11_placeToRoom 36 = .ok (.ireturn, 1) := by decide +kernel
theorem dX11_ring_0 : decode cX11_ring 0 = .ok (.aload_n 2, 1) := by decide +kernel
theorem dX11_ring_1 : decode cX11_ring 1 = .ok (.aload_n 1, 1) := by decide +kernel
theorem dX11_ring_2 : decode cX11_ring 2 = .ok (.putfield 432, 3) := by decide +kernel
theorem dX11_ring_5 : decode cX11_ring 5 = .ok (.aload_n 1, 1) := by decide +kernel
theorem dX11_ring_6 : decode cX11_ring 6 = .ok (.aload_n 2, 1) := by decide +kernel
theorem dX11_ring_7 : decode cX11_ring 7 = .ok (.putfield 237, 3) := by decide +kernel
theorem dX11_ring_10 : decode cX11_ring 10 = .ok (.aload_n 0, 1) := by decide +kernel
theorem dX11_ring_11 : decode cX11_ring 11 = .ok (.aload_n 1, 1) := by decide +kernel
theorem dX11_ring_12 : decode cX11_ring 12 = .ok (.iconst 2, 1) := by decide +kernel
theorem dX11_ring_13 : decode cX11_ring 13 = .ok (.invokevirtual 383, 3) := by decide +kernel
theorem dX11_ring_16 : decode cX11_ring 16 = .ok (.return_, 1) := by decide +kernel
theorem dX11_ringNoMore_0 : decode cX11_ringNoMore 0 = .ok (.aload_n 2, 1) := by decide +kernel
theorem dX11_ringNoMore_1 : decode cX11_ringNoMore 1 = .ok (.getfield 432, 3) := by decide +kernel
theorem dX11_ringNoMore_4 : decode cX11_ringNoMore 4 = .ok (.aload_n 1, 1) := by decide +kernel
theorem dX11_ringNoMore_5 : decode cX11_ringNoMore 5 = .ok (.if_acmp .ne 16, 3) := by decide +kernel
theorem dX11_ringNoMore_8 : decode cX11_ringNoMore 8 = .ok (.aload_n 2, 1) := by decide +kernel
theorem dX11_ringNoMore_9 : decode cX11_ringNoMore 9 = .ok (.aconst_null, 1) := by decide +kernel
theorem dX11_ringNoMore_10 : decode cX11_ringNoMore 10 = .ok (.putfield 432, 3) := by decide +kernel
theorem dX11_ringNoMore_13 : decode cX11_ringNoMore 13 = .ok (.aload_n 2, 1) := by decide +kernel
theorem dX11_ringNoMore_14 : decode cX11_ringNoMore 14 = .ok (.aload_n 0, 1) := by decide +kernel
theorem dX11_ringNoMore_15 : decode cX11_ringNoMore 15 = .ok (.getfield 177, 3) := by decide +kernel
theorem dX11_ringNoMore_18 : decode cX11_ringNoMore 18 = .ok (.putfield 438, 3) := by decide +kernel
theorem dX11_ringNoMore_21 : decode cX11_ringNoMore 21 = .ok (.aload_n 2, 1) := by decide +kernel
theorem dX11_ringNoMore_22 : decode cX11_ringNoMore 22 = .ok (.getfield 213, 3) := by decide +kernel
theorem dX11_ringNoMore_25 : decode cX11_ringNoMore 25 = .ok (.aload_n 1, 1) := by decide +kernel
theorem dX11_ringNoMore_26 : decode cX11_ringNoMore 26 = .ok (.if_acmp .ne 8, 3) := by decide +kernel
theorem dX11_ringNoMore_29 : decode cX11_ringNoMore 29 = .ok (.aload_n 2, 1) := by decide +kernel
theorem dX11_ringNoMore_30 : decode cX11_ringNoMore 30 = .ok (.aconst_null, 1) := by decide +kernel
theorem dX11_ringNoMore_31 : decode cX11_ringNoMore 31 = .ok (.putfield 213, 3) := by decide +kernel
theorem dX11_ringNoMore_34 : decode cX11_ringNoMore 34 = .ok (.return_, 1) := by decide +kernel
theorem dX11_announce_0 : decode cX11_announce 0 = .ok (.aload_n 1, 1) := by decide +kernel
theorem dX11_announce_1 : decode cX11_announce 1 = .ok (.getfield 227, 3) := by decide +kernel
theorem dX11_announce_4 : decode cX11_announce 4 = .ok (.ifnull 37, 3) := by decide +kernel
theorem dX11_announce_7 : decode cX11_announce 7 = .ok (.aload_n 1, 1) := by decide +kernel
theorem dX11_announce_8 : decode cX11_announce 8 = .ok (.getfield 517, 3) := by decide +kernel
theorem dX11_announce_11 : decode cX11_announce 11 = .ok (.ifCond .ne 30, 3) := by decide +kernel
theorem dX11_announce_14 : decode cX11_announce 14 = .ok (.aload_n 1, 1) := by decide +kernel
theorem dX11_announce_15 : decode cX11_announce 15 = .ok (.iconst 1, 1) := by decide +kernel
theorem dX11_announce_16 : decode cX11_announce 16 = .ok (.putfield 517, 3) := by decide +kernel
theorem dX11_announce_19 : decode cX11_announce 19 = .ok (.aload_n 1, 1) := by decide +kernel
theorem dX11_announce_20 : decode cX11_announce 20 = .ok (.getfield 444, 3) := by decide +kernel
theorem dX11_announce_23 : decode cX11_announce 23 = .ok (.getfield 261, 3) := by decide +kernel
theorem dX11_announce_26 : decode cX11_announce 26 = .ok (.iconst 2, 1) := by decide +kernel
theorem dX11_announce_27 : decode cX11_announce 27 = .ok (.aload_n 1, 1) := by decide +kernel
theorem dX11_announce_28 : decode cX11_announce 28 = .ok (.getfield 227, 3) := by decide +kernel
theorem dX11_announce_31 : decode cX11_announce 31 = .ok (.getfield 320, 3) := by decide +kernel
theorem dX11_announce_34 : decode cX11_announce 34 = .ok (.lconst 0, 1) := by decide +kernel
theorem dX11_announce_35 : decode cX11_announce 35 = .ok (.invokestatic 404, 3) := by decide +kernel
theorem dX11_announce_38 : decode cX11_announce 38 = .ok (.invokevirtual 408, 3) := by decide +kernel
theorem dX11_announce_41 : decode cX11_announce 41 = .ok (.return_, 1) := by decide +kernel
theorem dX11_answer_0 : decode cX11_answer 0 = .ok (.aload_n 0, 1) := by decide +kernel
theorem dX11_answer_1 : decode cX11_answer 1 = .ok (.aload_n 1, 1) := by decide +kernel
theorem dX11_answer_2 : decode cX11_answer 2 = .ok (.iconst 3, 1) := by decide +kernel
theorem dX11_answer_3 : decode cX11_answer 3 = .ok (.invokevirtual 383, 3) := by decide +kernel
theorem dX11_answer_6 : decode cX11_answer 6 = .ok (.aload_n 0, 1) := by decide +kernel
theorem dX11_answer_7 : decode cX11_answer 7 = .ok (.aload_n 1, 1) := by decide +kernel
theorem dX11_answer_8 : decode cX11_answer 8 = .ok (.invokevirtual 386, 3) := by decide +kernel
theorem dX11_answer_11 : decode cX11_answer 11 = .ok (.aload_n 1, 1) := by decide +kernel
theorem dX11_answer_12 : decode cX11_answer 12 = .ok (.getfield 227, 3) := by decide +kernel
theorem dX11_answer_15 : decode cX11_answer 15 = .ok (.ifnull 27, 3) := by decide +kernel
theorem dX11_answer_18 : decode cX11_answer 18 = .ok (.aload_n 1, 1) := by decide +kernel
theorem dX11_answer_19 : decode cX11_answer 19 = .ok (.getfield 444, 3) := by decide +kernel
theorem dX11_answer_22 : decode cX11_answer 22 = .ok (.getfield 261, 3) := by decide +kernel
theorem dX11_answer_25 : decode cX11_answer 25 = .ok (.iconst 3, 1) := by decide +kernel
theorem dX11_answer_26 : decode cX11_answer 26 = .ok (.aload_n 1, 1) := by decide +kernel
theorem dX11_answer_27 : decode cX11_answer 27 = .ok (.getfield 227, 3) := by decide +kernel
theorem dX11_answer_30 : decode cX11_answer 30 = .ok (.getfield 320, 3) := by decide +kernel
theorem dX11_answer_33 : decode cX11_answer 33 = .ok (.lconst 0, 1) := by decide +kernel
theorem dX11_answer_34 : decode cX11_answer 34 = .ok (.invokestatic 404, 3) := by decide +kernel
theorem dX11_answer_37 : decode cX11_answer 37 = .ok (.invokevirtual 408, 3) := by decide +kernel
theorem dX11_answer_40 : decode cX11_answer 40 = .ok (.iconst 0, 1) := by decide +kernel
theorem dX11_answer_41 : decode cX11_answer 41 = .ok (.ireturn, 1) := by decide +kernel
theorem dX11_answer_42 : decode cX11_answer 42 = .ok (.aload_n 0, 1) := by decide +kernel
theorem dX11_answer_43 : decode cX11_answer 43 = .ok (.getfield 30, 3) := by decide +kernel
theorem dX11_answer_46 : decode cX11_answer 46 = .ok (.aload_n 1, 1) := by decide +kernel
theorem dX11_answer_47 : decode cX11_answer 47 = .ok (.iconst 1, 1) := by decide +kernel
theorem dX11_answer_48 : decode cX11_answer 48 = .ok (.aload_n 0, 1) := by decide +kernel
theorem dX11_answer_49 : decode cX11_answer 49 = .ok (.getfield 177, 3) := by decide +kernel
theorem dX11_answer_52 : decode cX11_answer 52 = .ok (.invokevirtual 520, 3) := by decide +kernel
theorem dX11_answer_55 : decode cX11_answer 55 = .ok (.ifCond .eq 7, 3) := by decide +kernel
theorem dX11_answer_58 : decode cX11_answer 58 = .ok (.iconst 0, 1) := by decide +kernel
theorem dX11_answer_59 : decode cX11_answer 59 = .ok (.goto 4, 3) := by decide +kernel
theorem dX11_answer_62 : decode cX11_answer 62 = .ok (.iconst 5, 1) := by decide +kernel
theorem dX11_answer_63 : decode cX11_answer 63 = .ok (.ireturn, 1) := by decide +kernel
theorem dX11_endIf_0 : decode cX11_endIf 0 = .ok (.iload_n 2, 1) := by decide +kernel
theorem dX11_endIf_1 : decode cX11_endIf 1 = .ok (.ifCond .le 10, 3) := by decide +kernel
theorem dX11_endIf_4 : decode cX11_endIf 4 = .ok (.aload_n 0, 1) := by decide +kernel
theorem dX11_endIf_5 : decode cX11_endIf 5 = .ok (.aload_n 1, 1) := by decide +kernel
theorem dX11_endIf_6 : decode cX11_endIf 6 = .ok (.iload_n 2, 1) := by decide +kernel
theorem dX11_endIf_7 : decode cX11_endIf 7 = .ok (.iconst 0, 1) := by decide +kernel
theorem dX11_endIf_8 : decode cX11_endIf 8 = .ok (.invokevirtual 375, 3) := by decide +kernel
theorem dX11_endIf_11 : decode cX11_endIf 11 = .ok (.return_, 1) := by decide +kernel
theorem dX11_end_0 : decode cX11_end 0 = .ok (.iload_n 3, 1) := by decide +kernel
theorem dX11_end_1 : decode cX11_end 1 = .ok (.iconst 1, 1) := by decide +kernel
theorem dX11_end_2 : decode cX11_end 2 = .ok (.if_icmp .eq 17, 3) := by decide +kernel
theorem dX11_end_5 : decode cX11_end 5 = .ok (.aload_n 0, 1) := by decide +kernel
theorem dX11_end_6 : decode cX11_end 6 = .ok (.aload_n 1, 1) := by decide +kernel
theorem dX11_end_7 : decode cX11_end 7 = .ok (.aload_n 1, 1) := by decide +kernel
theorem dX11_end_8 : decode cX11_end 8 = .ok (.getfield 223, 3) := by decide +kernel
theorem dX11_end_11 : decode cX11_end 11 = .ok (.aload_n 1, 1) := by decide +kernel
theorem dX11_end_12 : decode cX11_end 12 = .ok (.getfield 227, 3) := by decide +kernel
theorem dX11_end_15 : decode cX11_end 15 = .ok (.iload_n 2, 1) := by decide +kernel
theorem dX11_end_16 : decode cX11_end 16 = .ok (.invokevirtual 524, 3) := by decide +kernel
theorem dX11_end_19 : decode cX11_end 19 = .ok (.iload_n 3, 1) := by decide +kernel
theorem dX11_end_20 : decode cX11_end 20 = .ok (.iconst 2, 1) := by decide +kernel
theorem dX11_end_21 : decode cX11_end 21 = .ok (.if_icmp .eq 17, 3) := by decide +kernel
theorem dX11_end_24 : decode cX11_end 24 = .ok (.aload_n 0, 1) := by decide +kernel
theorem dX11_end_25 : decode cX11_end 25 = .ok (.aload_n 1, 1) := by decide +kernel
theorem dX11_end_26 : decode cX11_end 26 = .ok (.aload_n 1, 1) := by decide +kernel
theorem dX11_end_27 : decode cX11_end 27 = .ok (.getfield 237, 3) := by decide +kernel
theorem dX11_end_30 : decode cX11_end 30 = .ok (.aload_n 1, 1) := by decide +kernel
theorem dX11_end_31 : decode cX11_end 31 = .ok (.getfield 240, 3) := by decide +kernel
theorem dX11_end_34 : decode cX11_end 34 = .ok (.iload_n 2, 1) := by decide +kernel
theorem dX11_end_35 : decode cX11_end 35 = .ok (.invokevirtual 524, 3) := by decide +kernel
theorem dX11_end_38 : decode cX11_end 38 = .ok (.aload_n 1, 1) := by decide +kernel
theorem dX11_end_39 : decode cX11_end 39 = .ok (.getfield 210, 3) := by decide +kernel
theorem dX11_end_42 : decode cX11_end 42 = .ok (.iconst 4, 1) := by decide +kernel
theorem dX11_end_43 : decode cX11_end 43 = .ok (.if_icmp .ne 23, 3) := by decide +kernel
theorem dX11_end_46 : decode cX11_end 46 = .ok (.aload_n 1, 1) := by decide +kernel
theorem dX11_end_47 : decode cX11_end 47 = .ok (.getfield 495, 3) := by decide +kernel
theorem dX11_end_50 : decode cX11_end 50 = .ok (.ifnull 16, 3) := by decide +kernel
theorem dX11_end_53 : decode cX11_end 53 = .ok (.aload_n 1, 1) := by decide +kernel
theorem dX11_end_54 : decode cX11_end 54 = .ok (.getfield 495, 3) := by decide +kernel
theorem dX11_end_57 : decode cX11_end 57 = .ok (.dup, 1) := by decide +kernel
theorem dX11_end_58 : decode cX11_end 58 = .ok (.getfield 254, 3) := by decide +kernel
theorem dX11_end_61 : decode cX11_end 61 = .ok (.iconst 1, 1) := by decide +kernel
theorem dX11_end_62 : decode cX11_end 62 = .ok (.isub, 1) := by decide +kernel
theorem dX11_end_63 : decode cX11_end 63 = .ok (.putfield 254, 3) := by decide +kernel
theorem dX11_end_66 : decode cX11_end 66 = .ok (.aload_n 1, 1) := by decide +kernel
theorem dX11_end_67 : decode cX11_end 67 = .ok (.getfield 234, 3) := by decide +kernel
theorem dX11_end_70 : decode cX11_end 70 = .ok (.iconst (-1), 1) := by decide +kernel
theorem dX11_end_71 : decode cX11_end 71 = .ok (.if_icmp .eq 19, 3) := by decide +kernel
theorem dX11_end_74 : decode cX11_end 74 = .ok (.aload_n 1, 1) := by decide +kernel
theorem dX11_end_75 : decode cX11_end 75 = .ok (.getfield 444, 3) := by decide +kernel
theorem dX11_end_78 : decode cX11_end 78 = .ok (.getfield 257, 3) := by decide +kernel
theorem dX11_end_81 : decode cX11_end 81 = .ok (.aload_n 1, 1) := by decide +kernel
theorem dX11_end_82 : decode cX11_end 82 = .ok (.getfield 234, 3) := by decide +kernel
theorem dX11_end_85 : decode cX11_end 85 = .ok (.dup2, 1) := by decide +kernel
theorem dX11_end_86 : decode cX11_end 86 = .ok (.iaload, 1) := by decide +kernel
theorem dX11_end_87 : decode cX11_end 87 = .ok (.iconst 1, 1) := by decide +kernel
theorem dX11_end_88 : decode cX11_end 88 = .ok (.isub, 1) := by decide +kernel
theorem dX11_end_89 : decode cX11_end 89 = .ok (.iastore, 1) := by decide +kernel
theorem dX11_end_90 : decode cX11_end 90 = .ok (.aload_n 1, 1) := by decide +kernel
theorem dX11_end_91 : decode cX11_end 91 = .ok (.getfield 210, 3) := by decide +kernel
theorem dX11_end_94 : decode cX11_end 94 = .ok (.iconst 3, 1) := by decide +kernel
theorem dX11_end_95 : decode cX11_end 95 = .ok (.if_icmp .ne 22, 3) := by decide +kernel
theorem dX11_end_98 : decode cX11_end 98 = .ok (.aload_n 1, 1) := by decide +kernel
theorem dX11_end_99 : decode cX11_end 99 = .ok (.getfield 223, 3) := by decide +kernel
theorem dX11_end_102 : decode cX11_end 102 = .ok (.ifnull 15, 3) := by decide +kernel
theorem dX11_end_105 : decode cX11_end 105 = .ok (.aload_n 0, 1) := by decide +kernel
theorem dX11_end_106 : decode cX11_end 106 = .ok (.getfield 30, 3) := by decide +kernel
theorem dX11_end_109 : decode cX11_end 109 = .ok (.aload_n 1, 1) := by decide +kernel
theorem dX11_end_110 : decode cX11_end 110 = .ok (.aload_n 0, 1) := by decide +kernel
theorem dX11_end_111 : decode cX11_end 111 = .ok (.getfield 177, 3) := by decide +kernel
theorem dX11_end_114 : decode cX11_end 114 = .ok (.invokevirtual 528, 3) := by decide +kernel
theorem dX11_end_117 : decode cX11_end 117 = .ok (.aload_n 1, 1) := by decide +kernel
theorem dX11_end_118 : decode cX11_end 118 = .ok (.iconst (-1), 1) := by decide +kernel
theorem dX11_end_119 : decode cX11_end 119 = .ok (.putfield 210, 3) := by decide +kernel
theorem dX11_end_122 : decode cX11_end 122 = .ok (.aload_n 0, 1) := by decide +kernel
theorem dX11_end_123 : decode cX11_end 123 = .ok (.dup, 1) := by decide +kernel
theorem dX11_end_124 : decode cX11_end 124 = .ok (.getfield 309, 3) := by decide +kernel
theorem dX11_end_127 : decode cX11_end 127 = .ok (.iconst 1, 1) := by decide +kernel
theorem dX11_end_128 : decode cX11_end 128 = .ok (.isub, 1) := by decide +kernel
theorem dX11_end_129 : decode cX11_end 129 = .ok (.putfield 309, 3) := by decide +kernel
theorem dX11_end_132 : decode cX11_end 132 = .ok (.return_, 1) := by decide +kernel
theorem dX11_tellEnd_0 : decode cX11_tellEnd 0 = .ok (.aload_n 2, 1) := by decide +kernel
theorem dX11_tellEnd_1 : decode cX11_tellEnd 1 = .ok (.ifnull 43, 3) := by decide +kernel
theorem dX11_tellEnd_4 : decode cX11_tellEnd 4 = .ok (.aload_n 0, 1) := by decide +kernel
theorem dX11_tellEnd_5 : decode cX11_tellEnd 5 = .ok (.aload_n 1, 1) := by decide +kernel
theorem dX11_tellEnd_6 : decode cX11_tellEnd 6 = .ok (.aload_n 2, 1) := by decide +kernel
theorem dX11_tellEnd_7 : decode cX11_tellEnd 7 = .ok (.invokevirtual 530, 3) := by decide +kernel
theorem dX11_tellEnd_10 : decode cX11_tellEnd 10 = .ok (.aload_n 2, 1) := by decide +kernel
theorem dX11_tellEnd_11 : decode cX11_tellEnd 11 = .ok (.getfield 206, 3) := by decide +kernel
theorem dX11_tellEnd_14 : decode cX11_tellEnd 14 = .ok (.aload_n 1, 1) := by decide +kernel
theorem dX11_tellEnd_15 : decode cX11_tellEnd 15 = .ok (.if_acmp .ne 29, 3) := by decide +kernel
theorem dX11_tellEnd_18 : decode cX11_tellEnd 18 = .ok (.aload_n 2, 1) := by decide +kernel
theorem dX11_tellEnd_19 : decode cX11_tellEnd 19 = .ok (.aconst_null, 1) := by decide +kernel
theorem dX11_tellEnd_20 : decode cX11_tellEnd 20 = .ok (.putfield 206, 3) := by decide +kernel
theorem dX11_tellEnd_23 : decode cX11_tellEnd 23 = .ok (.aload_n 2, 1) := by decide +kernel
theorem dX11_tellEnd_24 : decode cX11_tellEnd 24 = .ok (.iload 4, 2) := by decide +kernel
theorem dX11_tellEnd_26 : decode cX11_tellEnd 26 = .ok (.putfield 216, 3) := by decide +kernel
theorem dX11_tellEnd_29 : decode cX11_tellEnd 29 = .ok (.aload_n 2, 1) := by decide +kernel
theorem dX11_tellEnd_30 : decode cX11_tellEnd 30 = .ok (.iload 4, 2) := by decide +kernel
theorem dX11_tellEnd_32 : decode cX11_tellEnd 32 = .ok (.iconst 1, 1) := by decide +kernel
theorem dX11_tellEnd_33 : decode cX11_tellEnd 33 = .ok (.if_icmp .ne 7, 3) := by decide +kernel
theorem dX11_tellEnd_36 : decode cX11_tellEnd 36 = .ok (.iconst 4, 1) := by decide +kernel
theorem dX11_tellEnd_37 : decode cX11_tellEnd 37 = .ok (.goto 4, 3) := by decide +kernel
theorem dX11_tellEnd_40 : decode cX11_tellEnd 40 = .ok (.iconst 3, 1) := by decide +kernel
theorem dX11_tellEnd_41 : decode cX11_tellEnd 41 = .ok (.putfield 435, 3) := by decide +kernel
theorem dX11_tellEnd_44 : decode cX11_tellEnd 44 = .ok (.aload_n 3, 1) := by decide +kernel
theorem dX11_tellEnd_45 : decode cX11_tellEnd 45 = .ok (.ifnull 34, 3) := by decide +kernel
theorem dX11_tellEnd_48 : decode cX11_tellEnd 48 = .ok (.aload_n 3, 1) := by decide +kernel
theorem dX11_tellEnd_49 : decode cX11_tellEnd 49 = .ok (.iconst 3, 1) := by decide +kernel
theorem dX11_tellEnd_50 : decode cX11_tellEnd 50 = .ok (.putfield 250, 3) := by decide +kernel
theorem dX11_tellEnd_53 : decode cX11_tellEnd 53 = .ok (.aload_n 3, 1) := by decide +kernel
theorem dX11_tellEnd_54 : decode cX11_tellEnd 54 = .ok (.aconst_null, 1) := by decide +kernel
theorem dX11_tellEnd_55 : decode cX11_tellEnd 55 = .ok (.putfield 352, 3) := by decide +kernel
theorem dX11_tellEnd_58 : decode cX11_tellEnd 58 = .ok (.aload_n 1, 1) := by decide +kernel
theorem dX11_tellEnd_59 : decode cX11_tellEnd 59 = .ok (.getfield 444, 3) := by decide +kernel
theorem dX11_tellEnd_62 : decode cX11_tellEnd 62 = .ok (.getfield 261, 3) := by decide +kernel
theorem dX11_tellEnd_65 : decode cX11_tellEnd 65 = .ok (.iconst 4, 1) := by decide +kernel
theorem dX11_tellEnd_66 : decode cX11_tellEnd 66 = .ok (.aload_n 3, 1) := by decide +kernel
theorem dX11_tellEnd_67 : decode cX11_tellEnd 67 = .ok (.getfield 320, 3) := by decide +kernel
theorem dX11_tellEnd_70 : decode cX11_tellEnd 70 = .ok (.iload 4, 2) := by decide +kernel
theorem dX11_tellEnd_72 : decode cX11_tellEnd 72 = .ok (.i2l, 1) := by decide +kernel
theorem dX11_tellEnd_73 : decode cX11_tellEnd 73 = .ok (.invokestatic 404, 3) := by decide +kernel
theorem dX11_tellEnd_76 : decode cX11_tellEnd 76 = .ok (.invokevirtual 408, 3) := by decide +kernel
theorem dX11_tellEnd_79 : decode cX11_tellEnd 79 = .ok (.return_, 1) := by decide +kernel
theorem dX11_checkTimes_0 : decode cX11_checkTimes 0 = .ok (.iconst 0, 1) := by decide +kernel
theorem dX11_checkTimes_1 : decode cX11_checkTimes 1 = .ok (.istore_n 1, 1) := by decide +kernel
theorem dX11_checkTimes_2 : decode cX11_checkTimes 2 = .ok (.iload_n 1, 1) := by decide +kernel
theorem dX11_checkTimes_3 : decode cX11_checkTimes 3 = .ok (.aload_n 0, 1) := by decide +kernel
theorem dX11_checkTimes_4 : decode cX11_checkTimes 4 = .ok (.getfield 452, 3) := by decide +kernel
theorem dX11_checkTimes_7 : decode cX11_checkTimes 7 = .ok (.if_icmp .ge 71, 3) := by decide +kernel
theorem dX11_checkTimes_10 : decode cX11_checkTimes 10 = .ok (.aload_n 0, 1) := by decide +kernel
theorem dX11_checkTimes_11 : decode cX11_checkTimes 11 = .ok (.getfield 23, 3) := by decide +kernel
theorem dX11_checkTimes_14 : decode cX11_checkTimes 14 = .ok (.iload_n 1, 1) := by decide +kernel
theorem dX11_checkTimes_15 : decode cX11_checkTimes 15 = .ok (.aaload, 1) := by decide +kernel
theorem dX11_checkTimes_16 : decode cX11_checkTimes 16 = .ok (.astore_n 2, 1) := by decide +kernel
theorem dX11_checkTimes_17 : decode cX11_checkTimes 17 = .ok (.aload_n 2, 1) := by decide +kernel
theorem dX11_checkTimes_18 : decode cX11_checkTimes 18 = .ok (.getfield 210, 3) := by decide +kernel
theorem dX11_checkTimes_21 : decode cX11_checkTimes 21 = .ok (.iconst 2, 1) := by decide +kernel
theorem dX11_checkTimes_22 : decode cX11_checkTimes 22 = .ok (.if_icmp .ne 31, 3) := by decide +kernel
theorem dX11_checkTimes_25 : decode cX11_checkTimes 25 = .ok (.aload_n 2, 1) := by decide +kernel
theorem dX11_checkTimes_26 : decode cX11_checkTimes 26 = .ok (.getfield 237, 3) := by decide +kernel
theorem dX11_checkTimes_29 : decode cX11_checkTimes 29 = .ok (.ifnull 24, 3) := by decide +kernel
theorem dX11_checkTimes_32 : decode cX11_checkTimes 32 = .ok (.aload_n 0, 1) := by decide +kernel
theorem dX11_checkTimes_33 : decode cX11_checkTimes 33 = .ok (.aload_n 2, 1) := by decide +kernel
theorem dX11_checkTimes_34 : decode cX11_checkTimes 34 = .ok (.aload_n 2, 1) := by decide +kernel
theorem dX11_checkTimes_35 : decode cX11_checkTimes 35 = .ok (.getfield 237, 3) := by decide +kernel
theorem dX11_checkTimes_38 : decode cX11_checkTimes 38 = .ok (.aload_n 0, 1) := by decide +kernel
theorem dX11_checkTimes_39 : decode cX11_checkTimes 39 = .ok (.getfield 177, 3) := by decide +kernel
theorem dX11_checkTimes_42 : decode cX11_checkTimes 42 = .ok (.aload_n 2, 1) := by decide +kernel
theorem dX11_checkTimes_43 : decode cX11_checkTimes 43 = .ok (.getfield 441, 3) := by decide +kernel
theorem dX11_checkTimes_46 : decode cX11_checkTimes 46 = .ok (.isub, 1) := by decide +kernel
theorem dX11_checkTimes_47 : decode cX11_checkTimes 47 = .ok (.invokevirtual 533, 3) := by decide +kernel
theorem dX11_checkTimes_50 : decode cX11_checkTimes 50 = .ok (.goto 22, 3) := by decide +kernel
theorem dX11_checkTimes_53 : decode cX11_checkTimes 53 = .ok (.aload_n 0, 1) := by decide +kernel
theorem dX11_checkTimes_54 : decode cX11_checkTimes 54 = .ok (.aload_n 2, 1) := by decide +kernel
theorem dX11_checkTimes_55 : decode cX11_checkTimes 55 = .ok (.aload_n 0, 1) := by decide +kernel
theorem dX11_checkTimes_56 : decode cX11_checkTimes 56 = .ok (.aload_n 2, 1) := by decide +kernel
theorem dX11_checkTimes_57 : decode cX11_checkTimes 57 = .ok (.aload_n 0, 1) := by decide +kernel
theorem dX11_checkTimes_58 : decode cX11_checkTimes 58 = .ok (.getfield 177, 3) := by decide +kernel
theorem dX11_checkTimes_61 : decode cX11_checkTimes 61 = .ok (.aload_n 2, 1) := by decide +kernel
theorem dX11_checkTimes_62 : decode cX11_checkTimes 62 = .ok (.getfield 441, 3) := by decide +kernel
theorem dX11_checkTimes_65 : decode cX11_checkTimes 65 = .ok (.isub, 1) := by decide +kernel
theorem dX11_checkTimes_66 : decode cX11_checkTimes 66 = .ok (.invokevirtual 537, 3) := by decide +kernel
theorem dX11_checkTimes_69 : decode cX11_checkTimes 69 = .ok (.invokevirtual 394, 3) := by decide +kernel
theorem dX11_checkTimes_72 : decode cX11_checkTimes 72 = .ok (.iinc 1 1, 3) := by decide +kernel
theorem dX11_checkTimes_75 : decode cX11_checkTimes 75 = .ok (.goto (-73), 3) := by decide +kernel
theorem dX11_checkTimes_78 : decode cX11_checkTimes 78 = .ok (.return_, 1) := by decide +kernel
theorem dX11_causeByTime_0 : decode cX11_causeByTime 0 = .ok (.aload_n 1, 1) := by decide +kernel
theorem dX11_causeByTime_1 : decode cX11_causeByTime 1 = .ok (.getfield 210, 3) := by decide +kernel
theorem dX11_causeByTime_4 : decode cX11_causeByTime 4 = .ok (.tableswitch 110 0 4 #[36, 49, 110, 76, 63], 36) := by decide +kernel
theorem dX11_causeByTime_40 : decode cX11_causeByTime 40 = .ok (.iload_n 2, 1) := by decide +kernel
theorem dX11_causeByTime_41 : decode cX11_causeByTime 41 = .ok (.sipush 500, 3) := by decide +kernel
theorem dX11_causeByTime_44 : decode cX11_causeByTime 44 = .ok (.if_icmp .ne 7, 3) := by decide +kernel
theorem dX11_causeByTime_47 : decode cX11_causeByTime 47 = .ok (.iconst 1, 1) := by decide +kernel
theorem dX11_causeByTime_48 : decode cX11_causeByTime 48 = .ok (.goto 4, 3) := by decide +kernel
theorem dX11_causeByTime_51 : decode cX11_causeByTime 51 = .ok (.iconst 0, 1) := by decide +kernel
theorem dX11_causeByTime_52 : decode cX11_causeByTime 52 = .ok (.ireturn, 1) := by decide +kernel
theorem dX11_causeByTime_53 : decode cX11_causeByTime 53 = .ok (.iload_n 2, 1) := by decide +kernel
theorem dX11_causeByTime_54 : decode cX11_causeByTime 54 = .ok (.sipush 500, 3) := by decide +kernel
theorem dX11_causeByTime_57 : decode cX11_causeByTime 57 = .ok (.if_icmp .ne 8, 3) := by decide +kernel
theorem dX11_causeByTime_60 : decode cX11_causeByTime 60 = .ok (.bipush 6, 2) := by decide +kernel
theorem dX11_causeByTime_62 : decode cX11_causeByTime 62 = .ok (.goto 4, 3) := by decide +kernel
theorem dX11_causeByTime_65 : decode cX11_causeByTime 65 = .ok (.iconst 0, 1) := by decide +kernel
theorem dX11_causeByTime_66 : decode cX11_causeByTime 66 = .ok (.ireturn, 1) := by decide +kernel
theorem dX11_causeByTime_67 : decode cX11_causeByTime 67 = .ok (.iload_n 2, 1) := by decide +kernel
theorem dX11_causeByTime_68 : decode cX11_causeByTime 68 = .ok (.sipush 3000, 3) := by decide +kernel
theorem dX11_causeByTime_71 : decode cX11_causeByTime 71 = .ok (.if_icmp .ne 7, 3) := by decide +kernel
theorem dX11_causeByTime_74 : decode cX11_causeByTime 74 = .ok (.iconst 4, 1) := by decide +kernel
theorem dX11_causeByTime_75 : decode cX11_causeByTime 75 = .ok (.goto 4, 3) := by decide +kernel
theorem dX11_causeByTime_78 : decode cX11_causeByTime 78 = .ok (.iconst 0, 1) := by decide +kernel
theorem dX11_causeByTime_79 : decode cX11_causeByTime 79 = .ok (.ireturn, 1) := by decide +kernel
theorem dX11_causeByTime_80 : decode cX11_causeByTime 80 = .ok (.aload_n 0, 1) := by decide +kernel
theorem dX11_causeByTime_81 : decode cX11_causeByTime 81 = .ok (.getfield 30, 3) := by decide +kernel
theorem dX11_causeByTime_84 : decode cX11_causeByTime 84 = .ok (.aload_n 1, 1) := by decide +kernel
theorem dX11_causeByTime_85 : decode cX11_causeByTime 85 = .ok (.iload_n 2, 1) := by decide +kernel
theorem dX11_causeByTime_86 : decode cX11_causeByTime 86 = .ok (.invokevirtual 540, 3) := by decide +kernel
theorem dX11_causeByTime_89 : decode cX11_causeByTime 89 = .ok (.ifCond .eq 19, 3) := by decide +kernel
theorem dX11_causeByTime_92 : decode cX11_causeByTime 92 = .ok (.aload_n 0, 1) := by decide +kernel
theorem dX11_causeByTime_93 : decode cX11_causeByTime 93 = .ok (.getfield 30, 3) := by decide +kernel
theorem dX11_causeByTime_96 : decode cX11_causeByTime 96 = .ok (.aload_n 1, 1) := by decide +kernel
theorem dX11_causeByTime_97 : decode cX11_causeByTime 97 = .ok (.iconst 0, 1) := by decide +kernel
theorem dX11_causeByTime_98 : decode cX11_causeByTime 98 = .ok (.aload_n 0, 1) := by decide +kernel
theorem dX11_causeByTime_99 : decode cX11_causeByTime 99 = .ok (.getfield 177, 3) := by decide +kernel
theorem dX11_causeByTime_102 : decode cX11_causeByTime 102 = .ok (.invokevirtual 520, 3) := by decide +kernel
theorem dX11_causeByTime_105 : decode cX11_causeByTime 105 = .ok (.ifCond .eq 7, 3) := by decide +kernel
theorem dX11_causeByTime_108 : decode cX11_causeByTime 108 = .ok (.iconst 0, 1) := by decide +kernel
theorem dX11_causeByTime_109 : decode cX11_causeByTime 109 = .ok (.goto 4, 3) := by decide +kernel
theorem dX11_causeByTime_112 : decode cX11_causeByTime 112 = .ok (.iconst 5, 1) := by decide +kernel
theorem dX11_causeByTime_113 : decode cX11_causeByTime 113 = .ok (.ireturn, 1) := by decide +kernel
theorem dX11_causeByTime_114 : decode cX11_causeByTime 114 = .ok (.iconst 0, 1) := by decide +kernel
theorem dX11_causeByTime_115 : decode cX11_causeByTime 115 = .ok (.ireturn, 1) := by decide +kernel
theorem dX11_checkRinging_0 : decode cX11_checkRinging 0 = .ok (.aload_n 1, 1) := by decide +kernel
theorem dX11_checkRinging_1 : decode cX11_checkRinging 1 = .ok (.getfield 495, 3) := by decide +kernel
theorem dX11_checkRinging_4 : decode cX11_checkRinging 4 = .ok (.ifnull 44, 3) := by decide +kernel
theorem dX11_checkRinging_7 : decode cX11_checkRinging 7 = .ok (.iload_n 3, 1) := by decide +kernel
theorem dX11_checkRinging_8 : decode cX11_checkRinging 8 = .ok (.sipush 300, 3) := by decide +kernel
theorem dX11_checkRinging_11 : decode cX11_checkRinging 11 = .ok (.if_icmp .ne 100, 3) := by decide +kernel
theorem dX11_checkRinging_14 : decode cX11_checkRinging 14 = .ok (.aload_n 0, 1) := by decide +kernel
theorem dX11_checkRinging_15 : decode cX11_checkRinging 15 = .ok (.aload_n 1, 1) := by decide +kernel
theorem dX11_checkRinging_16 : decode cX11_checkRinging 16 = .ok (.aload_n 2, 1) := by decide +kernel
theorem dX11_checkRinging_17 : decode cX11_checkRinging 17 = .ok (.invokevirtual 530, 3) := by decide +kernel
theorem dX11_checkRinging_20 : decode cX11_checkRinging 20 = .ok (.aload_n 2, 1) := by decide +kernel
theorem dX11_checkRinging_21 : decode cX11_checkRinging 21 = .ok (.iconst 1, 1) := by decide +kernel
theorem dX11_checkRinging_22 : decode cX11_checkRinging 22 = .ok (.putfield 219, 3) := by decide +kernel
theorem dX11_checkRinging_25 : decode cX11_checkRinging 25 = .ok (.aload_n 1, 1) := by decide +kernel
theorem dX11_checkRinging_26 : decode cX11_checkRinging 26 = .ok (.aconst_null, 1) := by decide +kernel
theorem dX11_checkRinging_27 : decode cX11_checkRinging 27 = .ok (.putfield 237, 3) := by decide +kernel
theorem dX11_checkRinging_30 : decode cX11_checkRinging 30 = .ok (.aload_n 0, 1) := by decide +kernel
theorem dX11_checkRinging_31 : decode cX11_checkRinging 31 = .ok (.aload_n 1, 1) := by decide +kernel
theorem dX11_checkRinging_32 : decode cX11_checkRinging 32 = .ok (.iconst 4, 1) := by decide +kernel
theorem dX11_checkRinging_33 : decode cX11_checkRinging 33 = .ok (.invokevirtual 383, 3) := by decide +kernel
theorem dX11_checkRinging_36 : decode cX11_checkRinging 36 = .ok (.aload_n 1, 1) := by decide +kernel
theorem dX11_checkRinging_37 : decode cX11_checkRinging 37 = .ok (.getfield 495, 3) := by decide +kernel
theorem dX11_checkRinging_40 : decode cX11_checkRinging 40 = .ok (.aload_n 1, 1) := by decide +kernel
theorem dX11_checkRinging_41 : decode cX11_checkRinging 41 = .ok (.iconst 1, 1) := by decide +kernel
theorem dX11_checkRinging_42 : decode cX11_checkRinging 42 = .ok (.invokevirtual 513, 3) := by decide +kernel
theorem dX11_checkRinging_45 : decode cX11_checkRinging 45 = .ok (.goto 66, 3) := by decide +kernel
theorem dX11_checkRinging_48 : decode cX11_checkRinging 48 = .ok (.iload_n 3, 1) := by decide +kernel
theorem dX11_checkRinging_49 : decode cX11_checkRinging 49 = .ok (.sipush 600, 3) := by decide +kernel
theorem dX11_checkRinging_52 : decode cX11_checkRinging 52 = .ok (.if_icmp .ne 13, 3) := by decide +kernel
theorem dX11_checkRinging_55 : decode cX11_checkRinging 55 = .ok (.aload_n 0, 1) := by decide +kernel
theorem dX11_checkRinging_56 : decode cX11_checkRinging 56 = .ok (.aload_n 1, 1) := by decide +kernel
theorem dX11_checkRinging_57 : decode cX11_checkRinging 57 = .ok (.iconst 4, 1) := by decide +kernel
theorem dX11_checkRinging_58 : decode cX11_checkRinging 58 = .ok (.iconst 0, 1) := by decide +kernel
theorem dX11_checkRinging_59 : decode cX11_checkRinging 59 = .ok (.invokevirtual 375, 3) := by decide +kernel
theorem dX11_checkRinging_62 : decode cX11_checkRinging 62 = .ok (.goto 49, 3) := by decide +kernel
theorem dX11_checkRinging_65 : decode cX11_checkRinging 65 = .ok (.iload_n 3, 1) := by decide +kernel
theorem dX11_checkRinging_66 : decode cX11_checkRinging 66 = .ok (.sipush 300, 3) := by decide +kernel
theorem dX11_checkRinging_69 : decode cX11_checkRinging 69 = .ok (.if_icmp .ne 42, 3) := by decide +kernel
theorem dX11_checkRinging_72 : decode cX11_checkRinging 72 = .ok (.aload_n 2, 1) := by decide +kernel
theorem dX11_checkRinging_73 : decode cX11_checkRinging 73 = .ok (.getfield 141, 3) := by decide +kernel
theorem dX11_checkRinging_76 : decode cX11_checkRinging 76 = .ok (.iconst 2, 1) := by decide +kernel
theorem dX11_checkRinging_77 : decode cX11_checkRinging 77 = .ok (.laload, 1) := by decide +kernel
theorem dX11_checkRinging_78 : decode cX11_checkRinging 78 = .ok (.lconst 0, 1) := by decide +kernel
theorem dX11_checkRinging_79 : decode cX11_checkRinging 79 = .ok (.lcmp, 1) := by decide +kernel
theorem dX11_checkRinging_80 : decode cX11_checkRinging 80 = .ok (.ifCond .eq 31, 3) := by decide +kernel
theorem dX11_checkRinging_83 : decode cX11_checkRinging 83 = .ok (.aload_n 0, 1) := by decide +kernel
theorem dX11_checkRinging_84 : decode cX11_checkRinging 84 = .ok (.aload_n 1, 1) := by decide +kernel
theorem dX11_checkRinging_85 : decode cX11_checkRinging 85 = .ok (.aload_n 2, 1) := by decide +kernel
theorem dX11_checkRinging_86 : decode cX11_checkRinging 86 = .ok (.invokevirtual 530, 3) := by decide +kernel
theorem dX11_checkRinging_89 : decode cX11_checkRinging 89 = .ok (.aload_n 1, 1) := by decide +kernel
theorem dX11_checkRinging_90 : decode cX11_checkRinging 90 = .ok (.aconst_null, 1) := by decide +kernel
theorem dX11_checkRinging_91 : decode cX11_checkRinging 91 = .ok (.putfield 237, 3) := by decide +kernel
theorem dX11_checkRinging_94 : decode cX11_checkRinging 94 = .ok (.aload_n 1, 1) := by decide +kernel
theorem dX11_checkRinging_95 : decode cX11_checkRinging 95 = .ok (.aload_n 2, 1) := by decide +kernel
theorem dX11_checkRinging_96 : decode cX11_checkRinging 96 = .ok (.getfield 141, 3) := by decide +kernel
theorem dX11_checkRinging_99 : decode cX11_checkRinging 99 = .ok (.iconst 2, 1) := by decide +kernel
theorem dX11_checkRinging_100 : decode cX11_checkRinging 100 = .ok (.laload, 1) := by decide +kernel
theorem dX11_checkRinging_101 : decode cX11_checkRinging 101 = .ok (.putfield 222, 3) := by decide +kernel
theorem dX11_checkRinging_104 : decode cX11_checkRinging 104 = .ok (.aload_n 0, 1) := by decide +kernel
theorem dX11_checkRinging_105 : decode cX11_checkRinging 105 = .ok (.aload_n 1, 1) := by decide +kernel
theorem dX11_checkRinging_106 : decode cX11_checkRinging 106 = .ok (.bipush (-2), 2) := by decide +kernel
theorem dX11_checkRinging_108 : decode cX11_checkRinging 108 = .ok (.invokevirtual 355, 3) := by decide +kernel
theorem dX11_checkRinging_111 : decode cX11_checkRinging 111 = .ok (.return_, 1) := by decide +kernel
theorem dX11_serveGroups_0 : decode cX11_serveGroups 0 = .ok (.iconst 0, 1) := by decide +kernel
theorem dX11_serveGroups_1 : decode cX11_serveGroups 1 = .ok (.istore_n 1, 1) := by decide +kernel
theorem dX11_serveGroups_2 : decode cX11_serveGroups 2 = .ok (.iload_n 1, 1) := by decide +kernel
theorem dX11_serveGroups_3 : decode cX11_serveGroups 3 = .ok (.bipush 6, 2) := by decide +kernel
theorem dX11_serveGroups_5 : decode cX11_serveGroups 5 = .ok (.if_icmp .ge 90, 3) := by decide +kernel
theorem dX11_serveGroups_8 : decode cX11_serveGroups 8 = .ok (.aload_n 0, 1) := by decide +kernel
theorem dX11_serveGroups_9 : decode cX11_serveGroups 9 = .ok (.getfield 11, 3) := by decide +kernel
theorem dX11_serveGroups_12 : decode cX11_serveGroups 12 = .ok (.iload_n 1, 1) := by decide +kernel
theorem dX11_serveGroups_13 : decode cX11_serveGroups 13 = .ok (.iconst 3, 1) := by decide +kernel
theorem dX11_serveGroups_14 : decode cX11_serveGroups 14 = .ok (.idiv, 1) := by decide +kernel
theorem dX11_serveGroups_15 : decode cX11_serveGroups 15 = .ok (.aaload, 1) := by decide +kernel
theorem dX11_serveGroups_16 : decode cX11_serveGroups 16 = .ok (.getfield 118, 3) := by decide +kernel
theorem dX11_serveGroups_19 : decode cX11_serveGroups 19 = .ok (.iload_n 1, 1) := by decide +kernel
theorem dX11_serveGroups_20 : decode cX11_serveGroups 20 = .ok (.iconst 3, 1) := by decide +kernel
theorem dX11_serveGroups_21 : decode cX11_serveGroups 21 = .ok (.irem, 1) := by decide +kernel
theorem dX11_serveGroups_22 : decode cX11_serveGroups 22 = .ok (.aaload, 1) := by decide +kernel
theorem dX11_serveGroups_23 : decode cX11_serveGroups 23 = .ok (.astore_n 2, 1) := by decide +kernel
theorem dX11_serveGroups_24 : decode cX11_serveGroups 24 = .ok (.iconst 0, 1) := by decide +kernel
theorem dX11_serveGroups_25 : decode cX11_serveGroups 25 = .ok (.istore_n 3, 1) := by decide +kernel
theorem dX11_serveGroups_26 : decode cX11_serveGroups 26 = .ok (.iload_n 3, 1) := by decide +kernel
theorem dX11_serveGroups_27 : decode cX11_serveGroups 27 = .ok (.bipush 8, 2) := by decide +kernel
theorem dX11_serveGroups_29 : decode cX11_serveGroups 29 = .ok (.if_icmp .ge 60, 3) := by decide +kernel
theorem dX11_serveGroups_32 : decode cX11_serveGroups 32 = .ok (.aload_n 2, 1) := by decide +kernel
theorem dX11_serveGroups_33 : decode cX11_serveGroups 33 = .ok (.getfield 254, 3) := by decide +kernel
theorem dX11_serveGroups_36 : decode cX11_serveGroups 36 = .ok (.ifCond .le 53, 3) := by decide +kernel
theorem dX11_serveGroups_39 : decode cX11_serveGroups 39 = .ok (.aload_n 2, 1) := by decide +kernel
theorem dX11_serveGroups_40 : decode cX11_serveGroups 40 = .ok (.invokevirtual 509, 3) := by decide +kernel
theorem dX11_serveGroups_43 : decode cX11_serveGroups 43 = .ok (.astore 4, 2) := by decide +kernel
theorem dX11_serveGroups_45 : decode cX11_serveGroups 45 = .ok (.aload_n 0, 1) := by decide +kernel
theorem dX11_serveGroups_46 : decode cX11_serveGroups 46 = .ok (.aload_n 2, 1) := by decide +kernel
theorem dX11_serveGroups_47 : decode cX11_serveGroups 47 = .ok (.invokevirtual 544, 3) := by decide +kernel
theorem dX11_serveGroups_50 : decode cX11_serveGroups 50 = .ok (.astore 5, 2) := by decide +kernel
theorem dX11_serveGroups_52 : decode cX11_serveGroups 52 = .ok (.aload 4, 2) := by decide +kernel
theorem dX11_serveGroups_54 : decode cX11_serveGroups 54 = .ok (.ifnull 35, 3) := by decide +kernel
theorem dX11_serveGroups_57 : decode cX11_serveGroups 57 = .ok (.aload 5, 2) := by decide +kernel
theorem dX11_serveGroups_59 : decode cX11_serveGroups 59 = .ok (.ifnonnull 6, 3) := by decide +kernel
theorem dX11_serveGroups_62 : decode cX11_serveGroups 62 = .ok (.goto 27, 3) := by decide +kernel
theorem dX11_serveGroups_65 : decode cX11_serveGroups 65 = .ok (.aload_n 2, 1) := by decide +kernel
theorem dX11_serveGroups_66 : decode cX11_serveGroups 66 = .ok (.dup, 1) := by decide +kernel
theorem dX11_serveGroups_67 : decode cX11_serveGroups 67 = .ok (.getfield 254, 3) := by decide +kernel
theorem dX11_serveGroups_70 : decode cX11_serveGroups 70 = .ok (.iconst 1, 1) := by decide +kernel
theorem dX11_serveGroups_71 : decode cX11_serveGroups 71 = .ok (.isub, 1) := by decide +kernel
theorem dX11_serveGroups_72 : decode cX11_serveGroups 72 = .ok (.putfield 254, 3) := by decide +kernel
theorem dX11_serveGroups_75 : decode cX11_serveGroups 75 = .ok (.aload_n 0, 1) := by decide +kernel
theorem dX11_serveGroups_76 : decode cX11_serveGroups 76 = .ok (.aload 5, 2) := by decide +kernel
theorem dX11_serveGroups_78 : decode cX11_serveGroups 78 = .ok (.aload 4, 2) := by decide +kernel
theorem dX11_serveGroups_80 : decode cX11_serveGroups 80 = .ok (.invokevirtual 502, 3) := by decide +kernel
theorem dX11_serveGroups_83 : decode cX11_serveGroups 83 = .ok (.iinc 3 1, 3) := by decide +kernel
theorem dX11_serveGroups_86 : decode cX11_serveGroups 86 = .ok (.goto (-60), 3) := by decide +kernel
theorem dX11_serveGroups_89 : decode cX11_serveGroups 89 = .ok (.iinc 1 1, 3) := by decide +kernel
theorem dX11_serveGroups_92 : decode cX11_serveGroups 92 = .ok (.goto (-90), 3) := by decide +kernel
theorem dX11_serveGroups_95 : decode cX11_serveGroups 95 = .ok (.return_, 1) := by decide +kernel
theorem dX11_firstWaiting_0 : decode cX11_firstWaiting 0 = .ok (.aconst_null, 1) := by decide +kernel
theorem dX11_firstWaiting_1 : decode cX11_firstWaiting 1 = .ok (.astore_n 2, 1) := by decide +kernel
theorem dX11_firstWaiting_2 : decode cX11_firstWaiting 2 = .ok (.iconst 0, 1) := by decide +kernel
theorem dX11_firstWaiting_3 : decode cX11_firstWaiting 3 = .ok (.istore_n 3, 1) := by decide +kernel
theorem dX11_firstWaiting_4 : decode cX11_firstWaiting 4 = .ok (.iload_n 3, 1) := by decide +kernel
theorem dX11_firstWaiting_5 : decode cX11_firstWaiting 5 = .ok (.aload_n 0, 1) := by decide +kernel
theorem dX11_firstWaiting_6 : decode cX11_firstWaiting 6 = .ok (.getfield 452, 3) := by decide +kernel
theorem dX11_firstWaiting_9 : decode cX11_firstWaiting 9 = .ok (.if_icmp .ge 54, 3) := by decide +kernel
theorem dX11_firstWaiting_12 : decode cX11_firstWaiting 12 = .ok (.aload_n 0, 1) := by decide +kernel
theorem dX11_firstWaiting_13 : decode cX11_firstWaiting 13 = .ok (.getfield 23, 3) := by decide +kernel
theorem dX11_firstWaiting_16 : decode cX11_firstWaiting 16 = .ok (.iload_n 3, 1) := by decide +kernel
theorem dX11_firstWaiting_17 : decode cX11_firstWaiting 17 = .ok (.aaload, 1) := by decide +kernel
theorem dX11_firstWaiting_18 : decode cX11_firstWaiting 18 = .ok (.astore 4, 2) := by decide +kernel
theorem dX11_firstWaiting_20 : decode cX11_firstWaiting 20 = .ok (.aload 4, 2) := by decide +kernel
theorem dX11_firstWaiting_22 : decode cX11_firstWaiting 22 = .ok (.getfield 210, 3) := by decide +kernel
theorem dX11_firstWaiting_25 : decode cX11_firstWaiting 25 = .ok (.iconst 4, 1) := by decide +kernel
theorem dX11_firstWaiting_26 : decode cX11_firstWaiting 26 = .ok (.if_icmp .ne 31, 3) := by decide +kernel
theorem dX11_firstWaiting_29 : decode cX11_firstWaiting 29 = .ok (.aload 4, 2) := by decide +kernel
theorem dX11_firstWaiting_31 : decode cX11_firstWaiting 31 = .ok (.getfield 495, 3) := by decide +kernel
theorem dX11_firstWaiting_34 : decode cX11_firstWaiting 34 = .ok (.aload_n 1, 1) := by decide +kernel
theorem dX11_firstWaiting_35 : decode cX11_firstWaiting 35 = .ok (.if_acmp .ne 22, 3) := by decide +kernel
theorem dX11_firstWaiting_38 : decode cX11_firstWaiting 38 = .ok (.aload_n 2, 1) := by decide +kernel
theorem dX11_firstWaiting_39 : decode cX11_firstWaiting 39 = .ok (.ifnull 15, 3) := by decide +kernel
theorem dX11_firstWaiting_42 : decode cX11_firstWaiting 42 = .ok (.aload 4, 2) := by decide +kernel
theorem dX11_firstWaiting_44 : decode cX11_firstWaiting 44 = .ok (.getfield 548, 3) := by decide +kernel
theorem dX11_firstWaiting_47 : decode cX11_firstWaiting 47 = .ok (.aload_n 2, 1) := by decide +kernel
theorem dX11_firstWaiting_48 : decode cX11_firstWaiting 48 = .ok (.getfield 548, 3) := by decide +kernel
theorem dX11_firstWaiting_51 : decode cX11_firstWaiting 51 = .ok (.if_icmp .ge 6, 3) := by decide +kernel
theorem dX11_firstWaiting_54 : decode cX11_firstWaiting 54 = .ok (.aload 4, 2) := by decide +kernel
theorem dX11_firstWaiting_56 : decode cX11_firstWaiting 56 = .ok (.astore_n 2, 1) := by decide +kernel
theorem dX11_firstWaiting_57 : decode cX11_firstWaiting 57 = .ok (.iinc 3 1, 3) := by decide +kernel
theorem dX11_firstWaiting_60 : decode cX11_firstWaiting 60 = .ok (.goto (-56), 3) := by decide +kernel
theorem dX11_firstWaiting_63 : decode cX11_firstWaiting 63 = .ok (.aload_n 2, 1) := by decide +kernel
theorem dX11_firstWaiting_64 : decode cX11_firstWaiting 64 = .ok (.areturn, 1) := by decide +kernel
theorem dX11_carrySpeech_0 : decode cX11_carrySpeech 0 = .ok (.iconst 0, 1) := by decide +kernel
theorem dX11_carrySpeech_1 : decode cX11_carrySpeech 1 = .ok (.istore_n 1, 1) := by decide +kernel
theorem dX11_carrySpeech_2 : decode cX11_carrySpeech 2 = .ok (.iload_n 1, 1) := by decide +kernel
theorem dX11_carrySpeech_3 : decode cX11_carrySpeech 3 = .ok (.bipush 16, 2) := by decide +kernel
theorem dX11_carrySpeech_5 : decode cX11_carrySpeech 5 = .ok (.if_icmp .ge 19, 3) := by decide +kernel
theorem dX11_carrySpeech_8 : decode cX11_carrySpeech 8 = .ok (.aload_n 0, 1) := by decide +kernel
theorem dX11_carrySpeech_9 : decode cX11_carrySpeech 9 = .ok (.getfield 17, 3) := by decide +kernel
theorem dX11_carrySpeech_12 : decode cX11_carrySpeech 12 = .ok (.iload_n 1, 1) := by decide +kernel
theorem dX11_carrySpeech_13 : decode cX11_carrySpeech 13 = .ok (.aaload, 1) := by decide +kernel
theorem dX11_carrySpeech_14 : decode cX11_carrySpeech 14 = .ok (.iconst 0, 1) := by decide +kernel
theorem dX11_carrySpeech_15 : decode cX11_carrySpeech 15 = .ok (.putfield 243, 3) := by decide +kernel
theorem dX11_carrySpeech_18 : decode cX11_carrySpeech 18 = .ok (.iinc 1 1, 3) := by decide +kernel
theorem dX11_carrySpeech_21 : decode cX11_carrySpeech 21 = .ok (.goto (-19), 3) := by decide +kernel
theorem dX11_carrySpeech_24 : decode cX11_carrySpeech 24 = .ok (.iconst 0, 1) := by decide +kernel
theorem dX11_carrySpeech_25 : decode cX11_carrySpeech 25 = .ok (.istore_n 1, 1) := by decide +kernel
theorem dX11_carrySpeech_26 : decode cX11_carrySpeech 26 = .ok (.iload_n 1, 1) := by decide +kernel
theorem dX11_carrySpeech_27 : decode cX11_carrySpeech 27 = .ok (.iconst 2, 1) := by decide +kernel
theorem dX11_carrySpeech_28 : decode cX11_carrySpeech 28 = .ok (.if_icmp .ge 18, 3) := by decide +kernel
theorem dX11_carrySpeech_31 : decode cX11_carrySpeech 31 = .ok (.aload_n 0, 1) := by decide +kernel
theorem dX11_carrySpeech_32 : decode cX11_carrySpeech 32 = .ok (.getfield 11, 3) := by decide +kernel
theorem dX11_carrySpeech_35 : decode cX11_carrySpeech 35 = .ok (.iload_n 1, 1) := by decide +kernel
theorem dX11_carrySpeech_36 : decode cX11_carrySpeech 36 = .ok (.aaload, 1) := by decide +kernel
theorem dX11_carrySpeech_37 : decode cX11_carrySpeech 37 = .ok (.invokevirtual 551, 3) := by decide +kernel
theorem dX11_carrySpeech_40 : decode cX11_carrySpeech 40 = .ok (.iinc 1 1, 3) := by decide +kernel
theorem dX11_carrySpeech_43 : decode cX11_carrySpeech 43 = .ok (.goto (-17), 3) := by decide +kernel
theorem dX11_carrySpeech_46 : decode cX11_carrySpeech 46 = .ok (.iconst 0, 1) := by decide +kernel
theorem dX11_carrySpeech_47 : decode cX11_carrySpeech 47 = .ok (.istore_n 1, 1) := by decide +kernel
theorem dX11_carrySpeech_48 : decode cX11_carrySpeech 48 = .ok (.iload_n 1, 1) := by decide +kernel
theorem dX11_carrySpeech_49 : decode cX11_carrySpeech 49 = .ok (.aload_n 0, 1) := by decide +kernel
theorem dX11_carrySpeech_50 : decode cX11_carrySpeech 50 = .ok (.getfield 452, 3) := by decide +kernel
theorem dX11_carrySpeech_53 : decode cX11_carrySpeech 53 = .ok (.if_icmp .ge 59, 3) := by decide +kernel
theorem dX11_carrySpeech_56 : decode cX11_carrySpeech 56 = .ok (.aload_n 0, 1) := by decide +kernel
theorem dX11_carrySpeech_57 : decode cX11_carrySpeech 57 = .ok (.getfield 23, 3) := by decide +kernel
theorem dX11_carrySpeech_60 : decode cX11_carrySpeech 60 = .ok (.iload_n 1, 1) := by decide +kernel
theorem dX11_carrySpeech_61 : decode cX11_carrySpeech 61 = .ok (.aaload, 1) := by decide +kernel
theorem dX11_carrySpeech_62 : decode cX11_carrySpeech 62 = .ok (.astore_n 2, 1) := by decide +kernel
theorem dX11_carrySpeech_63 : decode cX11_carrySpeech 63 = .ok (.aload_n 2, 1) := by decide +kernel
theorem dX11_carrySpeech_64 : decode cX11_carrySpeech 64 = .ok (.getfield 210, 3) := by decide +kernel
theorem dX11_carrySpeech_67 : decode cX11_carrySpeech 67 = .ok (.iconst 3, 1) := by decide +kernel
theorem dX11_carrySpeech_68 : decode cX11_carrySpeech 68 = .ok (.if_icmp .ne 38, 3) := by decide +kernel
theorem dX11_carrySpeech_71 : decode cX11_carrySpeech 71 = .ok (.aload_n 2, 1) := by decide +kernel
theorem dX11_carrySpeech_72 : decode cX11_carrySpeech 72 = .ok (.getfield 234, 3) := by decide +kernel
theorem dX11_carrySpeech_75 : decode cX11_carrySpeech 75 = .ok (.iconst (-1), 1) := by decide +kernel
theorem dX11_carrySpeech_76 : decode cX11_carrySpeech 76 = .ok (.if_icmp .eq 30, 3) := by decide +kernel
theorem dX11_carrySpeech_79 : decode cX11_carrySpeech 79 = .ok (.aload_n 2, 1) := by decide +kernel
theorem dX11_carrySpeech_80 : decode cX11_carrySpeech 80 = .ok (.getfield 444, 3) := by decide +kernel
theorem dX11_carrySpeech_83 : decode cX11_carrySpeech 83 = .ok (.getfield 554, 3) := by decide +kernel
theorem dX11_carrySpeech_86 : decode cX11_carrySpeech 86 = .ok (.aload_n 2, 1) := by decide +kernel
theorem dX11_carrySpeech_87 : decode cX11_carrySpeech 87 = .ok (.getfield 234, 3) := by decide +kernel
theorem dX11_carrySpeech_90 : decode cX11_carrySpeech 90 = .ok (.dup2, 1) := by decide +kernel
theorem dX11_carrySpeech_91 : decode cX11_carrySpeech 91 = .ok (.iaload, 1) := by decide +kernel
theorem dX11_carrySpeech_92 : decode cX11_carrySpeech 92 = .ok (.aload_n 2, 1) := by decide +kernel
theorem dX11_carrySpeech_93 : decode cX11_carrySpeech 93 = .ok (.aload_n 2, 1) := by decide +kernel
theorem dX11_carrySpeech_94 : decode cX11_carrySpeech 94 = .ok (.getfield 223, 3) := by decide +kernel
theorem dX11_carrySpeech_97 : decode cX11_carrySpeech 97 = .ok (.aload_n 2, 1) := by decide +kernel
theorem dX11_carrySpeech_98 : decode cX11_carrySpeech 98 = .ok (.getfield 227, 3) := by decide +kernel
theorem dX11_carrySpeech_101 : decode cX11_carrySpeech 101 = .ok (.invokestatic 557, 3) := by decide +kernel
theorem dX11_carrySpeech_104 : decode cX11_carrySpeech 104 = .ok (.iadd, 1) := by decide +kernel
theorem dX11_carrySpeech_105 : decode cX11_carrySpeech 105 = .ok (.iastore, 1) := by decide +kernel
theorem dX11_carrySpeech_106 : decode cX11_carrySpeech 106 = .ok (.iinc 1 1, 3) := by decide +kernel
theorem dX11_carrySpeech_109 : decode cX11_carrySpeech 109 = .ok (.goto (-61), 3) := by decide +kernel
theorem dX11_carrySpeech_112 : decode cX11_carrySpeech 112 = .ok (.iconst 0, 1) := by decide +kernel
theorem dX11_carrySpeech_113 : decode cX11_carrySpeech 113 = .ok (.istore_n 1, 1) := by decide +kernel
theorem dX11_carrySpeech_114 : decode cX11_carrySpeech 114 = .ok (.iload_n 1, 1) := by decide +kernel
theorem dX11_carrySpeech_115 : decode cX11_carrySpeech 115 = .ok (.aload_n 0, 1) := by decide +kernel
theorem dX11_carrySpeech_116 : decode cX11_carrySpeech 116 = .ok (.getfield 452, 3) := by decide +kernel
