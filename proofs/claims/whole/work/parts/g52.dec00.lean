theorem dX0_init_0 : decode cX0_init 0 = .ok (.aload_n 0, 1) := by decide +kernel
theorem dX0_init_1 : decode cX0_init 1 = .ok (.invokespecial 3, 3) := by decide +kernel
theorem dX0_init_4 : decode cX0_init 4 = .ok (.aload_n 0, 1) := by decide +kernel
theorem dX0_init_5 : decode cX0_init 5 = .ok (.iconst (-1), 1) := by decide +kernel
theorem dX0_init_6 : decode cX0_init 6 = .ok (.putfield 9, 3) := by decide +kernel
theorem dX0_init_9 : decode cX0_init 9 = .ok (.return_, 1) := by decide +kernel
theorem dX0_begin_0 : decode cX0_begin 0 = .ok (.aload_n 0, 1) := by decide +kernel
theorem dX0_begin_1 : decode cX0_begin 1 = .ok (.aload_n 1, 1) := by decide +kernel
theorem dX0_begin_2 : decode cX0_begin 2 = .ok (.putfield 15, 3) := by decide +kernel
theorem dX0_begin_5 : decode cX0_begin 5 = .ok (.aload_n 0, 1) := by decide +kernel
theorem dX0_begin_6 : decode cX0_begin 6 = .ok (.aconst_null, 1) := by decide +kernel
theorem dX0_begin_7 : decode cX0_begin 7 = .ok (.putfield 19, 3) := by decide +kernel
theorem dX0_begin_10 : decode cX0_begin 10 = .ok (.aload_n 0, 1) := by decide +kernel
theorem dX0_begin_11 : decode cX0_begin 11 = .ok (.aconst_null, 1) := by decide +kernel
theorem dX0_begin_12 : decode cX0_begin 12 = .ok (.putfield 23, 3) := by decide +kernel
theorem dX0_begin_15 : decode cX0_begin 15 = .ok (.aload_n 0, 1) := by decide +kernel
theorem dX0_begin_16 : decode cX0_begin 16 = .ok (.aconst_null, 1) := by decide +kernel
theorem dX0_begin_17 : decode cX0_begin 17 = .ok (.putfield 27, 3) := by decide +kernel
theorem dX0_begin_20 : decode cX0_begin 20 = .ok (.aload_n 0, 1) := by decide +kernel
theorem dX0_begin_21 : decode cX0_begin 21 = .ok (.aconst_null, 1) := by decide +kernel
theorem dX0_begin_22 : decode cX0_begin 22 = .ok (.putfield 30, 3) := by decide +kernel
theorem dX0_begin_25 : decode cX0_begin 25 = .ok (.aload_n 0, 1) := by decide +kernel
theorem dX0_begin_26 : decode cX0_begin 26 = .ok (.aconst_null, 1) := by decide +kernel
theorem dX0_begin_27 : decode cX0_begin 27 = .ok (.putfield 33, 3) := by decide +kernel
theorem dX0_begin_30 : decode cX0_begin 30 = .ok (.aload_n 0, 1) := by decide +kernel
theorem dX0_begin_31 : decode cX0_begin 31 = .ok (.iconst (-1), 1) := by decide +kernel
theorem dX0_begin_32 : decode cX0_begin 32 = .ok (.putfield 37, 3) := by decide +kernel
theorem dX0_begin_35 : decode cX0_begin 35 = .ok (.aload_n 0, 1) := by decide +kernel
theorem dX0_begin_36 : decode cX0_begin 36 = .ok (.aconst_null, 1) := by decide +kernel
theorem dX0_begin_37 : decode cX0_begin 37 = .ok (.putfield 40, 3) := by decide +kernel
theorem dX0_begin_40 : decode cX0_begin 40 = .ok (.aload_n 0, 1) := by decide +kernel
theorem dX0_begin_41 : decode cX0_begin 41 = .ok (.lconst 0, 1) := by decide +kernel
theorem dX0_begin_42 : decode cX0_begin 42 = .ok (.putfield 44, 3) := by decide +kernel
theorem dX0_begin_45 : decode cX0_begin 45 = .ok (.aload_n 0, 1) := by decide +kernel
theorem dX0_begin_46 : decode cX0_begin 46 = .ok (.iconst 0, 1) := by decide +kernel
theorem dX0_begin_47 : decode cX0_begin 47 = .ok (.putfield 9, 3) := by decide +kernel
theorem dX0_begin_50 : decode cX0_begin 50 = .ok (.aload_n 0, 1) := by decide +kernel
theorem dX0_begin_51 : decode cX0_begin 51 = .ok (.iload_n 2, 1) := by decide +kernel
theorem dX0_begin_52 : decode cX0_begin 52 = .ok (.putfield 48, 3) := by decide +kernel
theorem dX0_begin_55 : decode cX0_begin 55 = .ok (.aload_n 0, 1) := by decide +kernel
theorem dX0_begin_56 : decode cX0_begin 56 = .ok (.iconst 0, 1) := by decide +kernel
theorem dX0_begin_57 : decode cX0_begin 57 = .ok (.putfield 51, 3) := by decide +kernel
theorem dX0_begin_60 : decode cX0_begin 60 = .ok (.aload_n 0, 1) := by decide +kernel
theorem dX0_begin_61 : decode cX0_begin 61 = .ok (.iconst 0, 1) := by decide +kernel
theorem dX0_begin_62 : decode cX0_begin 62 = .ok (.putfield 54, 3) := by decide +kernel
theorem dX0_begin_65 : decode cX0_begin 65 = .ok (.aload_n 0, 1) := by decide +kernel
theorem dX0_begin_66 : decode cX0_begin 66 = .ok (.iconst 0, 1) := by decide +kernel
theorem dX0_begin_67 : decode cX0_begin 67 = .ok (.putfield 57, 3) := by decide +kernel
theorem dX0_begin_70 : decode cX0_begin 70 = .ok (.aload_n 0, 1) := by decide +kernel
theorem dX0_begin_71 : decode cX0_begin 71 = .ok (.iconst 0, 1) := by decide +kernel
theorem dX0_begin_72 : decode cX0_begin 72 = .ok (.putfield 60, 3) := by decide +kernel
theorem dX0_begin_75 : decode cX0_begin 75 = .ok (.aload_n 0, 1) := by decide +kernel
theorem dX0_begin_76 : decode cX0_begin 76 = .ok (.iconst 0, 1) := by decide +kernel
theorem dX0_begin_77 : decode cX0_begin 77 = .ok (.putfield 63, 3) := by decide +kernel
theorem dX0_begin_80 : decode cX0_begin 80 = .ok (.return_, 1) := by decide +kernel
theorem dX1_init_0 : decode cX1_init 0 = .ok (.aload_n 0, 1) := by decide +kernel
theorem dX1_init_1 : decode cX1_init 1 = .ok (.invokespecial 3, 3) := by decide +kernel
theorem dX1_init_4 : decode cX1_init 4 = .ok (.aload_n 0, 1) := by decide +kernel
theorem dX1_init_5 : decode cX1_init 5 = .ok (.iconst 3, 1) := by decide +kernel
theorem dX1_init_6 : decode cX1_init 6 = .ok (.anewarray 9, 3) := by decide +kernel
theorem dX1_init_9 : decode cX1_init 9 = .ok (.putfield 11, 3) := by decide +kernel
theorem dX1_init_12 : decode cX1_init 12 = .ok (.aload_n 0, 1) := by decide +kernel
theorem dX1_init_13 : decode cX1_init 13 = .ok (.bipush 24, 2) := by decide +kernel
theorem dX1_init_15 : decode cX1_init 15 = .ok (.anewarray 17, 3) := by decide +kernel
theorem dX1_init_18 : decode cX1_init 18 = .ok (.putfield 19, 3) := by decide +kernel
theorem dX1_init_21 : decode cX1_init 21 = .ok (.aload_n 0, 1) := by decide +kernel
theorem dX1_init_22 : decode cX1_init 22 = .ok (.iconst 2, 1) := by decide +kernel
theorem dX1_init_23 : decode cX1_init 23 = .ok (.newarray .int, 2) := by decide +kernel
theorem dX1_init_25 : decode cX1_init 25 = .ok (.putfield 23, 3) := by decide +kernel
theorem dX1_init_28 : decode cX1_init 28 = .ok (.aload_n 0, 1) := by decide +kernel
theorem dX1_init_29 : decode cX1_init 29 = .ok (.iconst 2, 1) := by decide +kernel
theorem dX1_init_30 : decode cX1_init 30 = .ok (.newarray .int, 2) := by decide +kernel
theorem dX1_init_32 : decode cX1_init 32 = .ok (.putfield 27, 3) := by decide +kernel
theorem dX1_init_35 : decode cX1_init 35 = .ok (.aload_n 0, 1) := by decide +kernel
theorem dX1_init_36 : decode cX1_init 36 = .ok (.new 30, 3) := by decide +kernel
theorem dX1_init_39 : decode cX1_init 39 = .ok (.dup, 1) := by decide +kernel
theorem dX1_init_40 : decode cX1_init 40 = .ok (.invokespecial 32, 3) := by decide +kernel
theorem dX1_init_43 : decode cX1_init 43 = .ok (.putfield 33, 3) := by decide +kernel
theorem dX1_init_46 : decode cX1_init 46 = .ok (.aload_n 0, 1) := by decide +kernel
theorem dX1_init_47 : decode cX1_init 47 = .ok (.iload_n 1, 1) := by decide +kernel
theorem dX1_init_48 : decode cX1_init 48 = .ok (.putfield 37, 3) := by decide +kernel
theorem dX1_init_51 : decode cX1_init 51 = .ok (.aload_n 0, 1) := by decide +kernel
theorem dX1_init_52 : decode cX1_init 52 = .ok (.iload_n 2, 1) := by decide +kernel
theorem dX1_init_53 : decode cX1_init 53 = .ok (.anewarray 41, 3) := by decide +kernel
theorem dX1_init_56 : decode cX1_init 56 = .ok (.putfield 43, 3) := by decide +kernel
theorem dX1_init_59 : decode cX1_init 59 = .ok (.iconst 0, 1) := by decide +kernel
theorem dX1_init_60 : decode cX1_init 60 = .ok (.istore_n 3, 1) := by decide +kernel
theorem dX1_init_61 : decode cX1_init 61 = .ok (.iload_n 3, 1) := by decide +kernel
theorem dX1_init_62 : decode cX1_init 62 = .ok (.iload_n 2, 1) := by decide +kernel
theorem dX1_init_63 : decode cX1_init 63 = .ok (.if_icmp .ge 23, 3) := by decide +kernel
theorem dX1_init_66 : decode cX1_init 66 = .ok (.aload_n 0, 1) := by decide +kernel
theorem dX1_init_67 : decode cX1_init 67 = .ok (.getfield 43, 3) := by decide +kernel
theorem dX1_init_70 : decode cX1_init 70 = .ok (.iload_n 3, 1) := by decide +kernel
theorem dX1_init_71 : decode cX1_init 71 = .ok (.new 41, 3) := by decide +kernel
theorem dX1_init_74 : decode cX1_init 74 = .ok (.dup, 1) := by decide +kernel
theorem dX1_init_75 : decode cX1_init 75 = .ok (.iload_n 3, 1) := by decide +kernel
theorem dX1_init_76 : decode cX1_init 76 = .ok (.invokespecial 47, 3) := by decide +kernel
theorem dX1_init_79 : decode cX1_init 79 = .ok (.aastore, 1) := by decide +kernel
theorem dX1_init_80 : decode cX1_init 80 = .ok (.iinc 3 1, 3) := by decide +kernel
theorem dX1_init_83 : decode cX1_init 83 = .ok (.goto (-22), 3) := by decide +kernel
theorem dX1_init_86 : decode cX1_init 86 = .ok (.iconst 0, 1) := by decide +kernel
theorem dX1_init_87 : decode cX1_init 87 = .ok (.istore_n 3, 1) := by decide +kernel
theorem dX1_init_88 : decode cX1_init 88 = .ok (.iload_n 3, 1) := by decide +kernel
theorem dX1_init_89 : decode cX1_init 89 = .ok (.iconst 3, 1) := by decide +kernel
theorem dX1_init_90 : decode cX1_init 90 = .ok (.if_icmp .ge 22, 3) := by decide +kernel
theorem dX1_init_93 : decode cX1_init 93 = .ok (.aload_n 0, 1) := by decide +kernel
theorem dX1_init_94 : decode cX1_init 94 = .ok (.getfield 11, 3) := by decide +kernel
theorem dX1_init_97 : decode cX1_init 97 = .ok (.iload_n 3, 1) := by decide +kernel
theorem dX1_init_98 : decode cX1_init 98 = .ok (.new 9, 3) := by decide +kernel
theorem dX1_init_101 : decode cX1_init 101 = .ok (.dup, 1) := by decide +kernel
theorem dX1_init_102 : decode cX1_init 102 = .ok (.invokespecial 50, 3) := by decide +kernel
theorem dX1_init_105 : decode cX1_init 105 = .ok (.aastore, 1) := by decide +kernel
theorem dX1_init_106 : decode cX1_init 106 = .ok (.iinc 3 1, 3) := by decide +kernel
theorem dX1_init_109 : decode cX1_init 109 = .ok (.goto (-21), 3) := by decide +kernel
theorem dX1_init_112 : decode cX1_init 112 = .ok (.return_, 1) := by decide +kernel
theorem dX1_hasPrefix_0 : decode cX1_hasPrefix 0 = .ok (.iconst 0, 1) := by decide +kernel
theorem dX1_hasPrefix_1 : decode cX1_hasPrefix 1 = .ok (.istore_n 3, 1) := by decide +kernel
theorem dX1_hasPrefix_2 : decode cX1_hasPrefix 2 = .ok (.iload_n 3, 1) := by decide +kernel
theorem dX1_hasPrefix_3 : decode cX1_hasPrefix 3 = .ok (.aload_n 0, 1) := by decide +kernel
theorem dX1_hasPrefix_4 : decode cX1_hasPrefix 4 = .ok (.getfield 51, 3) := by decide +kernel
theorem dX1_hasPrefix_7 : decode cX1_hasPrefix 7 = .ok (.if_icmp .ge 25, 3) := by decide +kernel
theorem dX1_hasPrefix_10 : decode cX1_hasPrefix 10 = .ok (.aload_n 0, 1) := by decide +kernel
theorem dX1_hasPrefix_11 : decode cX1_hasPrefix 11 = .ok (.getfield 19, 3) := by decide +kernel
theorem dX1_hasPrefix_14 : decode cX1_hasPrefix 14 = .ok (.iload_n 3, 1) := by decide +kernel
theorem dX1_hasPrefix_15 : decode cX1_hasPrefix 15 = .ok (.aaload, 1) := by decide +kernel
theorem dX1_hasPrefix_16 : decode cX1_hasPrefix 16 = .ok (.getfield 54, 3) := by decide +kernel
theorem dX1_hasPrefix_19 : decode cX1_hasPrefix 19 = .ok (.lload_n 1, 1) := by decide +kernel
theorem dX1_hasPrefix_20 : decode cX1_hasPrefix 20 = .ok (.lcmp, 1) := by decide +kernel
theorem dX1_hasPrefix_21 : decode cX1_hasPrefix 21 = .ok (.ifCond .ne 5, 3) := by decide +kernel
theorem dX1_hasPrefix_24 : decode cX1_hasPrefix 24 = .ok (.iconst 1, 1) := by decide +kernel
theorem dX1_hasPrefix_25 : decode cX1_hasPrefix 25 = .ok (.ireturn, 1) := by decide +kernel
theorem dX1_hasPrefix_26 : decode cX1_hasPrefix 26 = .ok (.iinc 3 1, 3) := by decide +kernel
theorem dX1_hasPrefix_29 : decode cX1_hasPrefix 29 = .ok (.goto (-27), 3) := by decide +kernel
theorem dX1_hasPrefix_32 : decode cX1_hasPrefix 32 = .ok (.iconst 0, 1) := by decide +kernel
theorem dX1_hasPrefix_33 : decode cX1_hasPrefix 33 = .ok (.ireturn, 1) := by decide +kernel
theorem dX1_analyse_0 : decode cX1_analyse 0 = .ok (.bipush (-2), 2) := by decide +kernel
theorem dX1_analyse_2 : decode cX1_analyse 2 = .ok (.istore_n 3, 1) := by decide +kernel
theorem dX1_analyse_3 : decode cX1_analyse 3 = .ok (.iconst 0, 1) := by decide +kernel
theorem dX1_analyse_4 : decode cX1_analyse 4 = .ok (.istore 4, 2) := by decide +kernel
theorem dX1_analyse_6 : decode cX1_analyse 6 = .ok (.lload_n 1, 1) := by decide +kernel
theorem dX1_analyse_7 : decode cX1_analyse 7 = .ok (.invokestatic 58, 3) := by decide +kernel
theorem dX1_analyse_10 : decode cX1_analyse 10 = .ok (.istore 5, 2) := by decide +kernel
theorem dX1_analyse_12 : decode cX1_analyse 12 = .ok (.iconst 0, 1) := by decide +kernel
theorem dX1_analyse_13 : decode cX1_analyse 13 = .ok (.istore 6, 2) := by decide +kernel
theorem dX1_analyse_15 : decode cX1_analyse 15 = .ok (.iload 6, 2) := by decide +kernel
theorem dX1_analyse_17 : decode cX1_analyse 17 = .ok (.aload_n 0, 1) := by decide +kernel
theorem dX1_analyse_18 : decode cX1_analyse 18 = .ok (.getfield 51, 3) := by decide +kernel
theorem dX1_analyse_21 : decode cX1_analyse 21 = .ok (.if_icmp .ge 69, 3) := by decide +kernel
theorem dX1_analyse_24 : decode cX1_analyse 24 = .ok (.aload_n 0, 1) := by decide +kernel
theorem dX1_analyse_25 : decode cX1_analyse 25 = .ok (.getfield 19, 3) := by decide +kernel
theorem dX1_analyse_28 : decode cX1_analyse 28 = .ok (.iload 6, 2) := by decide +kernel
theorem dX1_analyse_30 : decode cX1_analyse 30 = .ok (.aaload, 1) := by decide +kernel
theorem dX1_analyse_31 : decode cX1_analyse 31 = .ok (.getfield 54, 3) := by decide +kernel
theorem dX1_analyse_34 : decode cX1_analyse 34 = .ok (.lstore 7, 2) := by decide +kernel
theorem dX1_analyse_36 : decode cX1_analyse 36 = .ok (.lload 7, 2) := by decide +kernel
theorem dX1_analyse_38 : decode cX1_analyse 38 = .ok (.invokestatic 58, 3) := by decide +kernel
theorem dX1_analyse_41 : decode cX1_analyse 41 = .ok (.istore 9, 2) := by decide +kernel
theorem dX1_analyse_43 : decode cX1_analyse 43 = .ok (.iload 9, 2) := by decide +kernel
theorem dX1_analyse_45 : decode cX1_analyse 45 = .ok (.iload 5, 2) := by decide +kernel
theorem dX1_analyse_47 : decode cX1_analyse 47 = .ok (.if_icmp .le 14, 3) := by decide +kernel
theorem dX1_analyse_50 : decode cX1_analyse 50 = .ok (.lload 7, 2) := by decide +kernel
theorem dX1_analyse_52 : decode cX1_analyse 52 = .ok (.lload_n 1, 1) := by decide +kernel
theorem dX1_analyse_53 : decode cX1_analyse 53 = .ok (.invokestatic 62, 3) := by decide +kernel
theorem dX1_analyse_56 : decode cX1_analyse 56 = .ok (.ifCond .eq 5, 3) := by decide +kernel
theorem dX1_analyse_59 : decode cX1_analyse 59 = .ok (.iconst (-1), 1) := by decide +kernel
theorem dX1_analyse_60 : decode cX1_analyse 60 = .ok (.ireturn, 1) := by decide +kernel
theorem dX1_analyse_61 : decode cX1_analyse 61 = .ok (.iload 9, 2) := by decide +kernel
theorem dX1_analyse_63 : decode cX1_analyse 63 = .ok (.iload 4, 2) := by decide +kernel
theorem dX1_analyse_65 : decode cX1_analyse 65 = .ok (.if_icmp .le 19, 3) := by decide +kernel
theorem dX1_analyse_68 : decode cX1_analyse 68 = .ok (.lload_n 1, 1) := by decide +kernel
theorem dX1_analyse_69 : decode cX1_analyse 69 = .ok (.lload 7, 2) := by decide +kernel
theorem dX1_analyse_71 : decode cX1_analyse 71 = .ok (.invokestatic 62, 3) := by decide +kernel
theorem dX1_analyse_74 : decode cX1_analyse 74 = .ok (.ifCond .eq 10, 3) := by decide +kernel
theorem dX1_analyse_77 : decode cX1_analyse 77 = .ok (.iload 6, 2) := by decide +kernel
theorem dX1_analyse_79 : decode cX1_analyse 79 = .ok (.istore_n 3, 1) := by decide +kernel
theorem dX1_analyse_80 : decode cX1_analyse 80 = .ok (.iload 9, 2) := by decide +kernel
theorem dX1_analyse_82 : decode cX1_analyse 82 = .ok (.istore 4, 2) := by decide +kernel
theorem dX1_analyse_84 : decode cX1_analyse 84 = .ok (.iinc 6 1, 3) := by decide +kernel
theorem dX1_analyse_87 : decode cX1_analyse 87 = .ok (.goto (-72), 3) := by decide +kernel
theorem dX1_analyse_90 : decode cX1_analyse 90 = .ok (.iload_n 3, 1) := by decide +kernel
theorem dX1_analyse_91 : decode cX1_analyse 91 = .ok (.bipush (-2), 2) := by decide +kernel
theorem dX1_analyse_93 : decode cX1_analyse 93 = .ok (.if_icmp .eq 17, 3) := by decide +kernel
theorem dX1_analyse_96 : decode cX1_analyse 96 = .ok (.aload_n 0, 1) := by decide +kernel
theorem dX1_analyse_97 : decode cX1_analyse 97 = .ok (.getfield 19, 3) := by decide +kernel
theorem dX1_analyse_100 : decode cX1_analyse 100 = .ok (.iload_n 3, 1) := by decide +kernel
theorem dX1_analyse_101 : decode cX1_analyse 101 = .ok (.aaload, 1) := by decide +kernel
theorem dX1_analyse_102 : decode cX1_analyse 102 = .ok (.getfield 66, 3) := by decide +kernel
theorem dX1_analyse_105 : decode cX1_analyse 105 = .ok (.iload 5, 2) := by decide +kernel
theorem dX1_analyse_107 : decode cX1_analyse 107 = .ok (.if_icmp .ge 6, 3) := by decide +kernel
theorem dX1_analyse_110 : decode cX1_analyse 110 = .ok (.bipush (-2), 2) := by decide +kernel
theorem dX1_analyse_112 : decode cX1_analyse 112 = .ok (.ireturn, 1) := by decide +kernel
theorem dX1_analyse_113 : decode cX1_analyse 113 = .ok (.aload_n 0, 1) := by decide +kernel
theorem dX1_analyse_114 : decode cX1_analyse 114 = .ok (.getfield 19, 3) := by decide +kernel
theorem dX1_analyse_117 : decode cX1_analyse 117 = .ok (.iload_n 3, 1) := by decide +kernel
theorem dX1_analyse_118 : decode cX1_analyse 118 = .ok (.aaload, 1) := by decide +kernel
theorem dX1_analyse_119 : decode cX1_analyse 119 = .ok (.getfield 66, 3) := by decide +kernel
theorem dX1_analyse_122 : decode cX1_analyse 122 = .ok (.iload 5, 2) := by decide +kernel
theorem dX1_analyse_124 : decode cX1_analyse 124 = .ok (.if_icmp .le 7, 3) := by decide +kernel
theorem dX1_analyse_127 : decode cX1_analyse 127 = .ok (.iconst (-1), 1) := by decide +kernel
theorem dX1_analyse_128 : decode cX1_analyse 128 = .ok (.goto 4, 3) := by decide +kernel
theorem dX1_analyse_131 : decode cX1_analyse 131 = .ok (.iload_n 3, 1) := by decide +kernel
theorem dX1_analyse_132 : decode cX1_analyse 132 = .ok (.ireturn, 1) := by decide +kernel
theorem dX1_findIdle_0 : decode cX1_findIdle 0 = .ok (.iconst 0, 1) := by decide +kernel
theorem dX1_findIdle_1 : decode cX1_findIdle 1 = .ok (.istore_n 2, 1) := by decide +kernel
theorem dX1_findIdle_2 : decode cX1_findIdle 2 = .ok (.aconst_null, 1) := by decide +kernel
theorem dX1_findIdle_3 : decode cX1_findIdle 3 = .ok (.astore_n 3, 1) := by decide +kernel
theorem dX1_findIdle_4 : decode cX1_findIdle 4 = .ok (.iconst 0, 1) := by decide +kernel
theorem dX1_findIdle_5 : decode cX1_findIdle 5 = .ok (.istore 4, 2) := by decide +kernel
theorem dX1_findIdle_7 : decode cX1_findIdle 7 = .ok (.iload 4, 2) := by decide +kernel
theorem dX1_findIdle_9 : decode cX1_findIdle 9 = .ok (.aload_n 0, 1) := by decide +kernel
theorem dX1_findIdle_10 : decode cX1_findIdle 10 = .ok (.getfield 43, 3) := by decide +kernel
theorem dX1_findIdle_13 : decode cX1_findIdle 13 = .ok (.arraylength, 1) := by decide +kernel
theorem dX1_findIdle_14 : decode cX1_findIdle 14 = .ok (.if_icmp .ge 45, 3) := by decide +kernel
theorem dX1_findIdle_17 : decode cX1_findIdle 17 = .ok (.aload_n 0, 1) := by decide +kernel
theorem dX1_findIdle_18 : decode cX1_findIdle 18 = .ok (.getfield 43, 3) := by decide +kernel
theorem dX1_findIdle_21 : decode cX1_findIdle 21 = .ok (.iload 4, 2) := by decide +kernel
theorem dX1_findIdle_23 : decode cX1_findIdle 23 = .ok (.aaload, 1) := by decide +kernel
theorem dX1_findIdle_24 : decode cX1_findIdle 24 = .ok (.getfield 69, 3) := by decide +kernel
theorem dX1_findIdle_27 : decode cX1_findIdle 27 = .ok (.ifCond .ne 26, 3) := by decide +kernel
theorem dX1_findIdle_30 : decode cX1_findIdle 30 = .ok (.iinc 2 1, 3) := by decide +kernel
theorem dX1_findIdle_33 : decode cX1_findIdle 33 = .ok (.aload_n 3, 1) := by decide +kernel
theorem dX1_findIdle_34 : decode cX1_findIdle 34 = .ok (.ifnull 11, 3) := by decide +kernel
theorem dX1_findIdle_37 : decode cX1_findIdle 37 = .ok (.aload_n 0, 1) := by decide +kernel
theorem dX1_findIdle_38 : decode cX1_findIdle 38 = .ok (.getfield 37, 3) := by decide +kernel
theorem dX1_findIdle_41 : decode cX1_findIdle 41 = .ok (.iconst 1, 1) := by decide +kernel
theorem dX1_findIdle_42 : decode cX1_findIdle 42 = .ok (.if_icmp .ne 11, 3) := by decide +kernel
theorem dX1_findIdle_45 : decode cX1_findIdle 45 = .ok (.aload_n 0, 1) := by decide +kernel
theorem dX1_findIdle_46 : decode cX1_findIdle 46 = .ok (.getfield 43, 3) := by decide +kernel
theorem dX1_findIdle_49 : decode cX1_findIdle 49 = .ok (.iload 4, 2) := by decide +kernel
theorem dX1_findIdle_51 : decode cX1_findIdle 51 = .ok (.aaload, 1) := by decide +kernel
theorem dX1_findIdle_52 : decode cX1_findIdle 52 = .ok (.astore_n 3, 1) := by decide +kernel
theorem dX1_findIdle_53 : decode cX1_findIdle 53 = .ok (.iinc 4 1, 3) := by decide +kernel
theorem dX1_findIdle_56 : decode cX1_findIdle 56 = .ok (.goto (-49), 3) := by decide +kernel
theorem dX1_findIdle_59 : decode cX1_findIdle 59 = .ok (.iload_n 2, 1) := by decide +kernel
theorem dX1_findIdle_60 : decode cX1_findIdle 60 = .ok (.iload_n 1, 1) := by decide +kernel
theorem dX1_findIdle_61 : decode cX1_findIdle 61 = .ok (.if_icmp .le 7, 3) := by decide +kernel
theorem dX1_findIdle_64 : decode cX1_findIdle 64 = .ok (.aload_n 3, 1) := by decide +kernel
theorem dX1_findIdle_65 : decode cX1_findIdle 65 = .ok (.goto 4, 3) := by decide +kernel
theorem dX1_findIdle_68 : decode cX1_findIdle 68 = .ok (.aconst_null, 1) := by decide +kernel
theorem dX1_findIdle_69 : decode cX1_findIdle 69 = .ok (.areturn, 1) := by decide +kernel
theorem dX1_hush_0 : decode cX1_hush 0 = .ok (.iconst 0, 1) := by decide +kernel
theorem dX1_hush_1 : decode cX1_hush 1 = .ok (.istore_n 1, 1) := by decide +kernel
theorem dX1_hush_2 : decode cX1_hush 2 = .ok (.iload_n 1, 1) := by decide +kernel
theorem dX1_hush_3 : decode cX1_hush 3 = .ok (.aload_n 0, 1) := by decide +kernel
theorem dX1_hush_4 : decode cX1_hush 4 = .ok (.getfield 43, 3) := by decide +kernel
theorem dX1_hush_7 : decode cX1_hush 7 = .ok (.arraylength, 1) := by decide +kernel
theorem dX1_hush_8 : decode cX1_hush 8 = .ok (.if_icmp .ge 39, 3) := by decide +kernel
theorem dX1_hush_11 : decode cX1_hush 11 = .ok (.aload_n 0, 1) := by decide +kernel
theorem dX1_hush_12 : decode cX1_hush 12 = .ok (.getfield 43, 3) := by decide +kernel
theorem dX1_hush_15 : decode cX1_hush 15 = .ok (.iload_n 1, 1) := by decide +kernel
theorem dX1_hush_16 : decode cX1_hush 16 = .ok (.aaload, 1) := by decide +kernel
theorem dX1_hush_17 : decode cX1_hush 17 = .ok (.aload_n 0, 1) := by decide +kernel
theorem dX1_hush_18 : decode cX1_hush 18 = .ok (.getfield 43, 3) := by decide +kernel
theorem dX1_hush_21 : decode cX1_hush 21 = .ok (.iload_n 1, 1) := by decide +kernel
theorem dX1_hush_22 : decode cX1_hush 22 = .ok (.aaload, 1) := by decide +kernel
theorem dX1_hush_23 : decode cX1_hush 23 = .ok (.getfield 72, 3) := by decide +kernel
theorem dX1_hush_26 : decode cX1_hush 26 = .ok (.putfield 75, 3) := by decide +kernel
theorem dX1_hush_29 : decode cX1_hush 29 = .ok (.aload_n 0, 1) := by decide +kernel
theorem dX1_hush_30 : decode cX1_hush 30 = .ok (.getfield 43, 3) := by decide +kernel
theorem dX1_hush_33 : decode cX1_hush 33 = .ok (.iload_n 1, 1) := by decide +kernel
theorem dX1_hush_34 : decode cX1_hush 34 = .ok (.aaload, 1) := by decide +kernel
theorem dX1_hush_35 : decode cX1_hush 35 = .ok (.sipush 213, 3) := by decide +kernel
theorem dX1_hush_38 : decode cX1_hush 38 = .ok (.putfield 72, 3) := by decide +kernel
theorem dX1_hush_41 : decode cX1_hush 41 = .ok (.iinc 1 1, 3) := by decide +kernel
theorem dX1_hush_44 : decode cX1_hush 44 = .ok (.goto (-42), 3) := by decide +kernel
theorem dX1_hush_47 : decode cX1_hush 47 = .ok (.iconst 0, 1) := by decide +kernel
theorem dX1_hush_48 : decode cX1_hush 48 = .ok (.istore_n 1, 1) := by decide +kernel
theorem dX1_hush_49 : decode cX1_hush 49 = .ok (.iload_n 1, 1) := by decide +kernel
theorem dX1_hush_50 : decode cX1_hush 50 = .ok (.iconst 2, 1) := by decide +kernel
theorem dX1_hush_51 : decode cX1_hush 51 = .ok (.if_icmp .ge 16, 3) := by decide +kernel
theorem dX1_hush_54 : decode cX1_hush 54 = .ok (.aload_n 0, 1) := by decide +kernel
theorem dX1_hush_55 : decode cX1_hush 55 = .ok (.getfield 27, 3) := by decide +kernel
theorem dX1_hush_58 : decode cX1_hush 58 = .ok (.iload_n 1, 1) := by decide +kernel
theorem dX1_hush_59 : decode cX1_hush 59 = .ok (.iconst 0, 1) := by decide +kernel
theorem dX1_hush_60 : decode cX1_hush 60 = .ok (.iastore, 1) := by decide +kernel
theorem dX1_hush_61 : decode cX1_hush 61 = .ok (.iinc 1 1, 3) := by decide +kernel
theorem dX1_hush_64 : decode cX1_hush 64 = .ok (.goto (-15), 3) := by decide +kernel
theorem dX1_hush_67 : decode cX1_hush 67 = .ok (.return_, 1) := by decide +kernel
theorem dX2_init_0 : decode cX2_init 0 = .ok (.aload_n 0, 1) := by decide +kernel
theorem dX2_init_1 : decode cX2_init 1 = .ok (.invokespecial 3, 3) := by decide +kernel
theorem dX2_init_4 : decode cX2_init 4 = .ok (.aload_n 0, 1) := by decide +kernel
theorem dX2_init_5 : decode cX2_init 5 = .ok (.bipush 8, 2) := by decide +kernel
theorem dX2_init_7 : decode cX2_init 7 = .ok (.anewarray 9, 3) := by decide +kernel
theorem dX2_init_10 : decode cX2_init 10 = .ok (.putfield 11, 3) := by decide +kernel
theorem dX2_init_13 : decode cX2_init 13 = .ok (.aload_n 0, 1) := by decide +kernel
theorem dX2_init_14 : decode cX2_init 14 = .ok (.iconst 1, 1) := by decide +kernel
theorem dX2_init_15 : decode cX2_init 15 = .ok (.putfield 17, 3) := by decide +kernel
theorem dX2_init_18 : decode cX2_init 18 = .ok (.aload_n 0, 1) := by decide +kernel
theorem dX2_init_19 : decode cX2_init 19 = .ok (.iconst 0, 1) := by decide +kernel
theorem dX2_init_20 : decode cX2_init 20 = .ok (.putfield 21, 3) := by decide +kernel
theorem dX2_init_23 : decode cX2_init 23 = .ok (.return_, 1) := by decide +kernel
theorem dX2_has_0 : decode cX2_has 0 = .ok (.iconst 0, 1) := by decide +kernel
theorem dX2_has_1 : decode cX2_has 1 = .ok (.istore_n 2, 1) := by decide +kernel
theorem dX2_has_2 : decode cX2_has 2 = .ok (.iload_n 2, 1) := by decide +kernel
theorem dX2_has_3 : decode cX2_has 3 = .ok (.aload_n 0, 1) := by decide +kernel
theorem dX2_has_4 : decode cX2_has 4 = .ok (.getfield 24, 3) := by decide +kernel
theorem dX2_has_7 : decode cX2_has 7 = .ok (.if_icmp .ge 21, 3) := by decide +kernel
theorem dX2_has_10 : decode cX2_has 10 = .ok (.aload_n 0, 1) := by decide +kernel
theorem dX2_has_11 : decode cX2_has 11 = .ok (.getfield 11, 3) := by decide +kernel
theorem dX2_has_14 : decode cX2_has 14 = .ok (.iload_n 2, 1) := by decide +kernel
theorem dX2_has_15 : decode cX2_has 15 = .ok (.aaload, 1) := by decide +kernel
theorem dX2_has_16 : decode cX2_has 16 = .ok (.aload_n 1, 1) := by decide +kernel
theorem dX2_has_17 : decode cX2_has 17 = .ok (.if_acmp .ne 5, 3) := by decide +kernel
theorem dX2_has_20 : decode cX2_has 20 = .ok (.iconst 1, 1) := by decide +kernel
theorem dX2_has_21 : decode cX2_has 21 = .ok (.ireturn, 1) := by decide +kernel
theorem dX2_has_22 : decode cX2_has 22 = .ok (.iinc 2 1, 3) := by decide +kernel
theorem dX2_has_25 : decode cX2_has 25 = .ok (.goto (-23), 3) := by decide +kernel
theorem dX2_has_28 : decode cX2_has 28 = .ok (.iconst 0, 1) := by decide +kernel
theorem dX2_has_29 : decode cX2_has 29 = .ok (.ireturn, 1) := by decide +kernel
theorem dX2_nextMember_0 : decode cX2_nextMember 0 = .ok (.aconst_null, 1) := by decide +kernel
theorem dX2_nextMember_1 : decode cX2_nextMember 1 = .ok (.astore_n 1, 1) := by decide +kernel
theorem dX2_nextMember_2 : decode cX2_nextMember 2 = .ok (.iconst 0, 1) := by decide +kernel
theorem dX2_nextMember_3 : decode cX2_nextMember 3 = .ok (.istore_n 2, 1) := by decide +kernel
theorem dX2_nextMember_4 : decode cX2_nextMember 4 = .ok (.iload_n 2, 1) := by decide +kernel
theorem dX2_nextMember_5 : decode cX2_nextMember 5 = .ok (.aload_n 0, 1) := by decide +kernel
theorem dX2_nextMember_6 : decode cX2_nextMember 6 = .ok (.getfield 24, 3) := by decide +kernel
theorem dX2_nextMember_9 : decode cX2_nextMember 9 = .ok (.if_icmp .ge 47, 3) := by decide +kernel
theorem dX2_nextMember_12 : decode cX2_nextMember 12 = .ok (.aload_n 0, 1) := by decide +kernel
theorem dX2_nextMember_13 : decode cX2_nextMember 13 = .ok (.getfield 11, 3) := by decide +kernel
theorem dX2_nextMember_16 : decode cX2_nextMember 16 = .ok (.iload_n 2, 1) := by decide +kernel
theorem dX2_nextMember_17 : decode cX2_nextMember 17 = .ok (.aaload, 1) := by decide +kernel
theorem dX2_nextMember_18 : decode cX2_nextMember 18 = .ok (.astore_n 3, 1) := by decide +kernel
theorem dX2_nextMember_19 : decode cX2_nextMember 19 = .ok (.aload_n 3, 1) := by decide +kernel
theorem dX2_nextMember_20 : decode cX2_nextMember 20 = .ok (.invokevirtual 27, 3) := by decide +kernel
theorem dX2_nextMember_23 : decode cX2_nextMember 23 = .ok (.ifCond .eq 27, 3) := by decide +kernel
theorem dX2_nextMember_26 : decode cX2_nextMember 26 = .ok (.aload_n 3, 1) := by decide +kernel
theorem dX2_nextMember_27 : decode cX2_nextMember 27 = .ok (.getfield 31, 3) := by decide +kernel
theorem dX2_nextMember_30 : decode cX2_nextMember 30 = .ok (.ifCond .ne 20, 3) := by decide +kernel
theorem dX2_nextMember_33 : decode cX2_nextMember 33 = .ok (.aload_n 1, 1) := by decide +kernel
theorem dX2_nextMember_34 : decode cX2_nextMember 34 = .ok (.ifnull 14, 3) := by decide +kernel
theorem dX2_nextMember_37 : decode cX2_nextMember 37 = .ok (.aload_n 3, 1) := by decide +kernel
theorem dX2_nextMember_38 : decode cX2_nextMember 38 = .ok (.getfield 35, 3) := by decide +kernel
theorem dX2_nextMember_41 : decode cX2_nextMember 41 = .ok (.aload_n 1, 1) := by decide +kernel
theorem dX2_nextMember_42 : decode cX2_nextMember 42 = .ok (.getfield 35, 3) := by decide +kernel
theorem dX2_nextMember_45 : decode cX2_nextMember 45 = .ok (.if_icmp .ge 5, 3) := by decide +kernel
theorem dX2_nextMember_48 : decode cX2_nextMember 48 = .ok (.aload_n 3, 1) := by decide +kernel
theorem dX2_nextMember_49 : decode cX2_nextMember 49 = .ok (.astore_n 1, 1) := by decide +kernel
theorem dX2_nextMember_50 : decode cX2_nextMember 50 = .ok (.iinc 2 1, 3) := by decide +kernel
theorem dX2_nextMember_53 : decode cX2_nextMember 53 = .ok (.goto (-49), 3) := by decide +kernel
theorem dX2_nextMember_56 : decode cX2_nextMember 56 = .ok (.aload_n 1, 1) := by decide +kernel
theorem dX2_nextMember_57 : decode cX2_nextMember 57 = .ok (.areturn, 1) := by decide +kernel
theorem dX2_letWait_0 : decode cX2_letWait 0 = .ok (.iload_n 2, 1) := by decide +kernel
theorem dX2_letWait_1 : decode cX2_letWait 1 = .ok (.ifCond .eq 24, 3) := by decide +kernel
theorem dX2_letWait_4 : decode cX2_letWait 4 = .ok (.aload_n 0, 1) := by decide +kernel
theorem dX2_letWait_5 : decode cX2_letWait 5 = .ok (.dup, 1) := by decide +kernel
theorem dX2_letWait_6 : decode cX2_letWait 6 = .ok (.getfield 17, 3) := by decide +kernel
theorem dX2_letWait_9 : decode cX2_letWait 9 = .ok (.iconst 1, 1) := by decide +kernel
theorem dX2_letWait_10 : decode cX2_letWait 10 = .ok (.isub, 1) := by decide +kernel
theorem dX2_letWait_11 : decode cX2_letWait 11 = .ok (.putfield 17, 3) := by decide +kernel
theorem dX2_letWait_14 : decode cX2_letWait 14 = .ok (.aload_n 1, 1) := by decide +kernel
theorem dX2_letWait_15 : decode cX2_letWait 15 = .ok (.aload_n 0, 1) := by decide +kernel
theorem dX2_letWait_16 : decode cX2_letWait 16 = .ok (.getfield 17, 3) := by decide +kernel
theorem dX2_letWait_19 : decode cX2_letWait 19 = .ok (.putfield 38, 3) := by decide +kernel
theorem dX2_letWait_22 : decode cX2_letWait 22 = .ok (.goto 21, 3) := by decide +kernel
theorem dX2_letWait_25 : decode cX2_letWait 25 = .ok (.aload_n 0, 1) := by decide +kernel
theorem dX2_letWait_26 : decode cX2_letWait 26 = .ok (.dup, 1) := by decide +kernel
theorem dX2_letWait_27 : decode cX2_letWait 27 = .ok (.getfield 21, 3) := by decide +kernel
theorem dX2_letWait_30 : decode cX2_letWait 30 = .ok (.iconst 1, 1) := by decide +kernel
theorem dX2_letWait_31 : decode cX2_letWait 31 = .ok (.iadd, 1) := by decide +kernel
theorem dX2_letWait_32 : decode cX2_letWait 32 = .ok (.putfield 21, 3) := by decide +kernel
theorem dX2_letWait_35 : decode cX2_letWait 35 = .ok (.aload_n 1, 1) := by decide +kernel
theorem dX2_letWait_36 : decode cX2_letWait 36 = .ok (.aload_n 0, 1) := by decide +kernel
theorem dX2_letWait_37 : decode cX2_letWait 37 = .ok (.getfield 21, 3) := by decide +kernel
theorem dX2_letWait_40 : decode cX2_letWait 40 = .ok (.putfield 38, 3) := by decide +kernel
theorem dX2_letWait_43 : decode cX2_letWait 43 = .ok (.aload_n 0, 1) := by decide +kernel
theorem dX2_letWait_44 : decode cX2_letWait 44 = .ok (.dup, 1) := by decide +kernel
theorem dX2_letWait_45 : decode cX2_letWait 45 = .ok (.getfield 43, 3) := by decide +kernel
theorem dX2_letWait_48 : decode cX2_letWait 48 = .ok (.iconst 1, 1) := by decide +kernel
theorem dX2_letWait_49 : decode cX2_letWait 49 = .ok (.iadd, 1) := by decide +kernel
theorem dX2_letWait_50 : decode cX2_letWait 50 = .ok (.putfield 43, 3) := by decide +kernel
theorem dX2_letWait_53 : decode cX2_letWait 53 = .ok (.return_, 1) := by decide +kernel
theorem dX3_init_0 : decode cX3_init 0 = .ok (.aload_n 0, 1) := by decide +kernel
theorem dX3_init_1 : decode cX3_init 1 = .ok (.invokespecial 3, 3) := by decide +kernel
theorem dX3_init_4 : decode cX3_init 4 = .ok (.aload_n 0, 1) := by decide +kernel
theorem dX3_init_5 : decode cX3_init 5 = .ok (.bipush 16, 2) := by decide +kernel
theorem dX3_init_7 : decode cX3_init 7 = .ok (.newarray .int, 2) := by decide +kernel
theorem dX3_init_9 : decode cX3_init 9 = .ok (.putfield 9, 3) := by decide +kernel
theorem dX3_init_12 : decode cX3_init 12 = .ok (.aload_n 0, 1) := by decide +kernel
theorem dX3_init_13 : decode cX3_init 13 = .ok (.sipush 1500, 3) := by decide +kernel
theorem dX3_init_16 : decode cX3_init 16 = .ok (.newarray .int, 2) := by decide +kernel
theorem dX3_init_18 : decode cX3_init 18 = .ok (.putfield 15, 3) := by decide +kernel
theorem dX3_init_21 : decode cX3_init 21 = .ok (.iconst 0, 1) := by decide +kernel
theorem dX3_init_22 : decode cX3_init 22 = .ok (.istore_n 1, 1) := by decide +kernel
theorem dX3_init_23 : decode cX3_init 23 = .ok (.iload_n 1, 1) := by decide +kernel
theorem dX3_init_24 : decode cX3_init 24 = .ok (.iconst 4, 1) := by decide +kernel
theorem dX3_init_25 : decode cX3_init 25 = .ok (.if_icmp .ge 21, 3) := by decide +kernel
theorem dX3_init_28 : decode cX3_init 28 = .ok (.aload_n 0, 1) := by decide +kernel
theorem dX3_init_29 : decode cX3_init 29 = .ok (.getfield 9, 3) := by decide +kernel
theorem dX3_init_32 : decode cX3_init 32 = .ok (.iload_n 1, 1) := by decide +kernel
theorem dX3_init_33 : decode cX3_init 33 = .ok (.iconst 4, 1) := by decide +kernel
theorem dX3_init_34 : decode cX3_init 34 = .ok (.imul, 1) := by decide +kernel
theorem dX3_init_35 : decode cX3_init 35 = .ok (.iconst 1, 1) := by decide +kernel
theorem dX3_init_36 : decode cX3_init 36 = .ok (.iadd, 1) := by decide +kernel
theorem dX3_init_37 : decode cX3_init 37 = .ok (.bipush 100, 2) := by decide +kernel
theorem dX3_init_39 : decode cX3_init 39 = .ok (.iastore, 1) := by decide +kernel
theorem dX3_init_40 : decode cX3_init 40 = .ok (.iinc 1 1, 3) := by decide +kernel
theorem dX3_init_43 : decode cX3_init 43 = .ok (.goto (-20), 3) := by decide +kernel
theorem dX3_init_46 : decode cX3_init 46 = .ok (.return_, 1) := by decide +kernel
theorem dX3_setTariff_0 : decode cX3_setTariff 0 = .ok (.iload_n 1, 1) := by decide +kernel
theorem dX3_setTariff_1 : decode cX3_setTariff 1 = .ok (.iconst 4, 1) := by decide +kernel
theorem dX3_setTariff_2 : decode cX3_setTariff 2 = .ok (.imul, 1) := by decide +kernel
theorem dX3_setTariff_3 : decode cX3_setTariff 3 = .ok (.istore 6, 2) := by decide +kernel
theorem dX3_setTariff_5 : decode cX3_setTariff 5 = .ok (.aload_n 0, 1) := by decide +kernel
theorem dX3_setTariff_6 : decode cX3_setTariff 6 = .ok (.getfield 9, 3) := by decide +kernel
theorem dX3_setTariff_9 : decode cX3_setTariff 9 = .ok (.iload 6, 2) := by decide +kernel
theorem dX3_setTariff_11 : decode cX3_setTariff 11 = .ok (.iload_n 2, 1) := by decide +kernel
theorem dX3_setTariff_12 : decode cX3_setTariff 12 = .ok (.iastore, 1) := by decide +kernel
theorem dX3_setTariff_13 : decode cX3_setTariff 13 = .ok (.aload_n 0, 1) := by decide +kernel
theorem dX3_setTariff_14 : decode cX3_setTariff 14 = .ok (.getfield 9, 3) := by decide +kernel
theorem dX3_setTariff_17 : decode cX3_setTariff 17 = .ok (.iload 6, 2) := by decide +kernel
theorem dX3_setTariff_19 : decode cX3_setTariff 19 = .ok (.iconst 1, 1) := by decide +kernel
theorem dX3_setTariff_20 : decode cX3_setTariff 20 = .ok (.iadd, 1) := by decide +kernel
theorem dX3_setTariff_21 : decode cX3_setTariff 21 = .ok (.iload_n 3, 1) := by decide +kernel
theorem dX3_setTariff_22 : decode cX3_setTariff 22 = .ok (.iastore, 1) := by decide +kernel
theorem dX3_setTariff_23 : decode cX3_setTariff 23 = .ok (.aload_n 0, 1) := by decide +kernel
theorem dX3_setTariff_24 : decode cX3_setTariff 24 = .ok (.getfield 9, 3) := by decide +kernel
theorem dX3_setTariff_27 : decode cX3_setTariff 27 = .ok (.iload 6, 2) := by decide +kernel
theorem dX3_setTariff_29 : decode cX3_setTariff 29 = .ok (.iconst 2, 1) := by decide +kernel
theorem dX3_setTariff_30 : decode cX3_setTariff 30 = .ok (.iadd, 1) := by decide +kernel
theorem dX3_setTariff_31 : decode cX3_setTariff 31 = .ok (.iload 4, 2) := by decide +kernel
theorem dX3_setTariff_33 : decode cX3_setTariff 33 = .ok (.iastore, 1) := by decide +kernel
theorem dX3_setTariff_34 : decode cX3_setTariff 34 = .ok (.aload_n 0, 1) := by decide +kernel
theorem dX3_setTariff_35 : decode cX3_setTariff 35 = .ok (.getfield 9, 3) := by decide +kernel
theorem dX3_setTariff_38 : decode cX3_setTariff 38 = .ok (.iload 6, 2) := by decide +kernel
theorem dX3_setTariff_40 : decode cX3_setTariff 40 = .ok (.iconst 3, 1) := by decide +kernel
theorem dX3_setTariff_41 : decode cX3_setTariff 41 = .ok (.iadd, 1) := by decide +kernel
theorem dX3_setTariff_42 : decode cX3_setTariff 42 = .ok (.iload 5, 2) := by decide +kernel
theorem dX3_setTariff_44 : decode cX3_setTariff 44 = .ok (.iastore, 1) := by decide +kernel
theorem dX3_setTariff_45 : decode cX3_setTariff 45 = .ok (.return_, 1) := by decide +kernel
theorem dX3_isStep_0 : decode cX3_isStep 0 = .ok (.aload_n 0, 1) := by decide +kernel
theorem dX3_isStep_1 : decode cX3_isStep 1 = .ok (.getfield 9, 3) := by decide +kernel
theorem dX3_isStep_4 : decode cX3_isStep 4 = .ok (.aload_n 1, 1) := by decide +kernel
theorem dX3_isStep_5 : decode cX3_isStep 5 = .ok (.getfield 18, 3) := by decide +kernel
theorem dX3_isStep_8 : decode cX3_isStep 8 = .ok (.iconst 4, 1) := by decide +kernel
theorem dX3_isStep_9 : decode cX3_isStep 9 = .ok (.imul, 1) := by decide +kernel
theorem dX3_isStep_10 : decode cX3_isStep 10 = .ok (.iconst 1, 1) := by decide +kernel
theorem dX3_isStep_11 : decode cX3_isStep 11 = .ok (.iadd, 1) := by decide +kernel
theorem dX3_isStep_12 : decode cX3_isStep 12 = .ok (.iaload, 1) := by decide +kernel
theorem dX3_isStep_13 : decode cX3_isStep 13 = .ok (.istore_n 3, 1) := by decide +kernel
theorem dX3_isStep_14 : decode cX3_isStep 14 = .ok (.aload_n 1, 1) := by decide +kernel
theorem dX3_isStep_15 : decode cX3_isStep 15 = .ok (.getfield 24, 3) := by decide +kernel
theorem dX3_isStep_18 : decode cX3_isStep 18 = .ok (.ifnull 21, 3) := by decide +kernel
theorem dX3_isStep_21 : decode cX3_isStep 21 = .ok (.iload_n 2, 1) := by decide +kernel
theorem dX3_isStep_22 : decode cX3_isStep 22 = .ok (.ifCond .le 17, 3) := by decide +kernel
theorem dX3_isStep_25 : decode cX3_isStep 25 = .ok (.iload_n 3, 1) := by decide +kernel
theorem dX3_isStep_26 : decode cX3_isStep 26 = .ok (.ifCond .le 13, 3) := by decide +kernel
theorem dX3_isStep_29 : decode cX3_isStep 29 = .ok (.iload_n 2, 1) := by decide +kernel
theorem dX3_isStep_30 : decode cX3_isStep 30 = .ok (.iload_n 3, 1) := by decide +kernel
theorem dX3_isStep_31 : decode cX3_isStep 31 = .ok (.irem, 1) := by decide +kernel
theorem dX3_isStep_32 : decode cX3_isStep 32 = .ok (.ifCond .ne 7, 3) := by decide +kernel
theorem dX3_isStep_35 : decode cX3_isStep 35 = .ok (.iconst 1, 1) := by decide +kernel
theorem dX3_isStep_36 : decode cX3_isStep 36 = .ok (.goto 4, 3) := by decide +kernel
theorem dX3_isStep_39 : decode cX3_isStep 39 = .ok (.iconst 0, 1) := by decide +kernel
theorem dX3_isStep_40 : decode cX3_isStep 40 = .ok (.ireturn, 1) := by decide +kernel
theorem dX3_charge_0 : decode cX3_charge 0 = .ok (.aload_n 1, 1) := by decide +kernel
theorem dX3_charge_1 : decode cX3_charge 1 = .ok (.getfield 24, 3) := by decide +kernel
theorem dX3_charge_4 : decode cX3_charge 4 = .ok (.astore 4, 2) := by decide +kernel
theorem dX3_charge_6 : decode cX3_charge 6 = .ok (.aload 4, 2) := by decide +kernel
theorem dX3_charge_8 : decode cX3_charge 8 = .ok (.ifnonnull 5, 3) := by decide +kernel
theorem dX3_charge_11 : decode cX3_charge 11 = .ok (.iconst 1, 1) := by decide +kernel
theorem dX3_charge_12 : decode cX3_charge 12 = .ok (.ireturn, 1) := by decide +kernel
theorem dX3_charge_13 : decode cX3_charge 13 = .ok (.aload_n 1, 1) := by decide +kernel
theorem dX3_charge_14 : decode cX3_charge 14 = .ok (.getfield 18, 3) := by decide +kernel
theorem dX3_charge_17 : decode cX3_charge 17 = .ok (.iconst 4, 1) := by decide +kernel
theorem dX3_charge_18 : decode cX3_charge 18 = .ok (.imul, 1) := by decide +kernel
theorem dX3_charge_19 : decode cX3_charge 19 = .ok (.istore 5, 2) := by decide +kernel
theorem dX3_charge_21 : decode cX3_charge 21 = .ok (.iload_n 3, 1) := by decide +kernel
theorem dX3_charge_22 : decode cX3_charge 22 = .ok (.sipush 2400, 3) := by decide +kernel
theorem dX3_charge_25 : decode cX3_charge 25 = .ok (.irem, 1) := by decide +kernel
theorem dX3_charge_26 : decode cX3_charge 26 = .ok (.sipush 800, 3) := by decide +kernel
theorem dX3_charge_29 : decode cX3_charge 29 = .ok (.if_icmp .ge 15, 3) := by decide +kernel
theorem dX3_charge_32 : decode cX3_charge 32 = .ok (.aload_n 0, 1) := by decide +kernel
theorem dX3_charge_33 : decode cX3_charge 33 = .ok (.getfield 9, 3) := by decide +kernel
theorem dX3_charge_36 : decode cX3_charge 36 = .ok (.iload 5, 2) := by decide +kernel
theorem dX3_charge_38 : decode cX3_charge 38 = .ok (.iconst 3, 1) := by decide +kernel
theorem dX3_charge_39 : decode cX3_charge 39 = .ok (.iadd, 1) := by decide +kernel
theorem dX3_charge_40 : decode cX3_charge 40 = .ok (.iaload, 1) := by decide +kernel
theorem dX3_charge_41 : decode cX3_charge 41 = .ok (.goto 12, 3) := by decide +kernel
theorem dX3_charge_44 : decode cX3_charge 44 = .ok (.aload_n 0, 1) := by decide +kernel
theorem dX3_charge_45 : decode cX3_charge 45 = .ok (.getfield 9, 3) := by decide +kernel
theorem dX3_charge_48 : decode cX3_charge 48 = .ok (.iload 5, 2) := by decide +kernel
theorem dX3_charge_50 : decode cX3_charge 50 = .ok (.iconst 2, 1) := by decide +kernel
theorem dX3_charge_51 : decode cX3_charge 51 = .ok (.iadd, 1) := by decide +kernel
theorem dX3_charge_52 : decode cX3_charge 52 = .ok (.iaload, 1) := by decide +kernel
theorem dX3_charge_53 : decode cX3_charge 53 = .ok (.istore 6, 2) := by decide +kernel
theorem dX3_charge_55 : decode cX3_charge 55 = .ok (.iload_n 2, 1) := by decide +kernel
theorem dX3_charge_56 : decode cX3_charge 56 = .ok (.ifCond .eq 15, 3) := by decide +kernel
theorem dX3_charge_59 : decode cX3_charge 59 = .ok (.iload 6, 2) := by decide +kernel
theorem dX3_charge_61 : decode cX3_charge 61 = .ok (.aload_n 0, 1) := by decide +kernel
theorem dX3_charge_62 : decode cX3_charge 62 = .ok (.getfield 9, 3) := by decide +kernel
theorem dX3_charge_65 : decode cX3_charge 65 = .ok (.iload 5, 2) := by decide +kernel
theorem dX3_charge_67 : decode cX3_charge 67 = .ok (.iaload, 1) := by decide +kernel
theorem dX3_charge_68 : decode cX3_charge 68 = .ok (.iadd, 1) := by decide +kernel
theorem dX3_charge_69 : decode cX3_charge 69 = .ok (.istore 6, 2) := by decide +kernel
theorem dX3_charge_71 : decode cX3_charge 71 = .ok (.aload 4, 2) := by decide +kernel
theorem dX3_charge_73 : decode cX3_charge 73 = .ok (.getfield 28, 3) := by decide +kernel
theorem dX3_charge_76 : decode cX3_charge 76 = .ok (.iconst (-1), 1) := by decide +kernel
theorem dX3_charge_77 : decode cX3_charge 77 = .ok (.if_icmp .eq 27, 3) := by decide +kernel
theorem dX3_charge_80 : decode cX3_charge 80 = .ok (.aload 4, 2) := by decide +kernel
theorem dX3_charge_82 : decode cX3_charge 82 = .ok (.getfield 28, 3) := by decide +kernel
theorem dX3_charge_85 : decode cX3_charge 85 = .ok (.iload 6, 2) := by decide +kernel
theorem dX3_charge_87 : decode cX3_charge 87 = .ok (.if_icmp .ge 5, 3) := by decide +kernel
theorem dX3_charge_90 : decode cX3_charge 90 = .ok (.iconst 0, 1) := by decide +kernel
theorem dX3_charge_91 : decode cX3_charge 91 = .ok (.ireturn, 1) := by decide +kernel
theorem dX3_charge_92 : decode cX3_charge 92 = .ok (.aload 4, 2) := by decide +kernel
theorem dX3_charge_94 : decode cX3_charge 94 = .ok (.dup, 1) := by decide +kernel
theorem dX3_charge_95 : decode cX3_charge 95 = .ok (.getfield 28, 3) := by decide +kernel
theorem dX3_charge_98 : decode cX3_charge 98 = .ok (.iload 6, 2) := by decide +kernel
theorem dX3_charge_100 : decode cX3_charge 100 = .ok (.isub, 1) := by decide +kernel
theorem dX3_charge_101 : decode cX3_charge 101 = .ok (.putfield 28, 3) := by decide +kernel
theorem dX3_charge_104 : decode cX3_charge 104 = .ok (.aload_n 1, 1) := by decide +kernel
theorem dX3_charge_105 : decode cX3_charge 105 = .ok (.dup, 1) := by decide +kernel
theorem dX3_charge_106 : decode cX3_charge 106 = .ok (.getfield 33, 3) := by decide +kernel
theorem dX3_charge_109 : decode cX3_charge 109 = .ok (.iload 6, 2) := by decide +kernel
theorem dX3_charge_111 : decode cX3_charge 111 = .ok (.iadd, 1) := by decide +kernel
theorem dX3_charge_112 : decode cX3_charge 112 = .ok (.putfield 33, 3) := by decide +kernel
theorem dX3_charge_115 : decode cX3_charge 115 = .ok (.iconst 1, 1) := by decide +kernel
theorem dX3_charge_116 : decode cX3_charge 116 = .ok (.ireturn, 1) := by decide +kernel
theorem dX3_write_0 : decode cX3_write 0 = .ok (.aload_n 0, 1) := by decide +kernel
theorem dX3_write_1 : decode cX3_write 1 = .ok (.getfield 36, 3) := by decide +kernel
theorem dX3_write_4 : decode cX3_write 4 = .ok (.sipush 300, 3) := by decide +kernel
theorem dX3_write_7 : decode cX3_write 7 = .ok (.irem, 1) := by decide +kernel
theorem dX3_write_8 : decode cX3_write 8 = .ok (.iconst 5, 1) := by decide +kernel
theorem dX3_write_9 : decode cX3_write 9 = .ok (.imul, 1) := by decide +kernel
theorem dX3_write_10 : decode cX3_write 10 = .ok (.istore_n 3, 1) := by decide +kernel
theorem dX3_write_11 : decode cX3_write 11 = .ok (.aload_n 0, 1) := by decide +kernel
theorem dX3_write_12 : decode cX3_write 12 = .ok (.getfield 15, 3) := by decide +kernel
theorem dX3_write_15 : decode cX3_write 15 = .ok (.iload_n 3, 1) := by decide +kernel
theorem dX3_write_16 : decode cX3_write 16 = .ok (.aload_n 1, 1) := by decide +kernel
theorem dX3_write_17 : decode cX3_write 17 = .ok (.getfield 24, 3) := by decide +kernel
theorem dX3_write_20 : decode cX3_write 20 = .ok (.ifnonnull 7, 3) := by decide +kernel
theorem dX3_write_23 : decode cX3_write 23 = .ok (.iconst (-1), 1) := by decide +kernel
theorem dX3_write_24 : decode cX3_write 24 = .ok (.goto 10, 3) := by decide +kernel
theorem dX3_write_27 : decode cX3_write 27 = .ok (.aload_n 1, 1) := by decide +kernel
theorem dX3_write_28 : decode cX3_write 28 = .ok (.getfield 24, 3) := by decide +kernel
theorem dX3_write_31 : decode cX3_write 31 = .ok (.getfield 39, 3) := by decide +kernel
theorem dX3_write_34 : decode cX3_write 34 = .ok (.iastore, 1) := by decide +kernel
theorem dX3_write_35 : decode cX3_write 35 = .ok (.aload_n 0, 1) := by decide +kernel
theorem dX3_write_36 : decode cX3_write 36 = .ok (.getfield 15, 3) := by decide +kernel
theorem dX3_write_39 : decode cX3_write 39 = .ok (.iload_n 3, 1) := by decide +kernel
theorem dX3_write_40 : decode cX3_write 40 = .ok (.iconst 1, 1) := by decide +kernel
theorem dX3_write_41 : decode cX3_write 41 = .ok (.iadd, 1) := by decide +kernel
theorem dX3_write_42 : decode cX3_write 42 = .ok (.aload_n 1, 1) := by decide +kernel
theorem dX3_write_43 : decode cX3_write 43 = .ok (.getfield 18, 3) := by decide +kernel
theorem dX3_write_46 : decode cX3_write 46 = .ok (.iastore, 1) := by decide +kernel
theorem dX3_write_47 : decode cX3_write 47 = .ok (.aload_n 0, 1) := by decide +kernel
theorem dX3_write_48 : decode cX3_write 48 = .ok (.getfield 15, 3) := by decide +kernel
theorem dX3_write_51 : decode cX3_write 51 = .ok (.iload_n 3, 1) := by decide +kernel
theorem dX3_write_52 : decode cX3_write 52 = .ok (.iconst 2, 1) := by decide +kernel
theorem dX3_write_53 : decode cX3_write 53 = .ok (.iadd, 1) := by decide +kernel
theorem dX3_write_54 : decode cX3_write 54 = .ok (.aload_n 1, 1) := by decide +kernel
theorem dX3_write_55 : decode cX3_write 55 = .ok (.getfield 42, 3) := by decide +kernel
theorem dX3_write_58 : decode cX3_write 58 = .ok (.iastore, 1) := by decide +kernel
theorem dX3_write_59 : decode cX3_write 59 = .ok (.aload_n 0, 1) := by decide +kernel
theorem dX3_write_60 : decode cX3_write 60 = .ok (.getfield 15, 3) := by decide +kernel
theorem dX3_write_63 : decode cX3_write 63 = .ok (.iload_n 3, 1) := by decide +kernel
theorem dX3_write_64 : decode cX3_write 64 = .ok (.iconst 3, 1) := by decide +kernel
theorem dX3_write_65 : decode cX3_write 65 = .ok (.iadd, 1) := by decide +kernel
theorem dX3_write_66 : decode cX3_write 66 = .ok (.iload_n 2, 1) := by decide +kernel
theorem dX3_write_67 : decode cX3_write 67 = .ok (.iastore, 1) := by decide +kernel
theorem dX3_write_68 : decode cX3_write 68 = .ok (.aload_n 0, 1) := by decide +kernel
theorem dX3_write_69 : decode cX3_write 69 = .ok (.getfield 15, 3) := by decide +kernel
theorem dX3_write_72 : decode cX3_write 72 = .ok (.iload_n 3, 1) := by decide +kernel
theorem dX3_write_73 : decode cX3_write 73 = .ok (.iconst 4, 1) := by decide +kernel
theorem dX3_write_74 : decode cX3_write 74 = .ok (.iadd, 1) := by decide +kernel
theorem dX3_write_75 : decode cX3_write 75 = .ok (.aload_n 1, 1) := by decide +kernel
theorem dX3_write_76 : decode cX3_write 76 = .ok (.getfield 33, 3) := by decide +kernel
theorem dX3_write_79 : decode cX3_write 79 = .ok (.iastore, 1) := by decide +kernel
theorem dX3_write_80 : decode cX3_write 80 = .ok (.aload_n 0, 1) := by decide +kernel
theorem dX3_write_81 : decode cX3_write 81 = .ok (.dup, 1) := by decide +kernel
theorem dX3_write_82 : decode cX3_write 82 = .ok (.getfield 36, 3) := by decide +kernel
theorem dX3_write_85 : decode cX3_write 85 = .ok (.iconst 1, 1) := by decide +kernel
theorem dX3_write_86 : decode cX3_write 86 = .ok (.iadd, 1) := by decide +kernel
theorem dX3_write_87 : decode cX3_write 87 = .ok (.putfield 36, 3) := by decide +kernel
theorem dX3_write_90 : decode cX3_write 90 = .ok (.return_, 1) := by decide +kernel
theorem dX3_read_0 : decode cX3_read 0 = .ok (.iload_n 1, 1) := by decide +kernel
theorem dX3_read_1 : decode cX3_read 1 = .ok (.ifCond .lt 23, 3) := by decide +kernel
theorem dX3_read_4 : decode cX3_read 4 = .ok (.iload_n 1, 1) := by decide +kernel
theorem dX3_read_5 : decode cX3_read 5 = .ok (.aload_n 0, 1) := by decide +kernel
theorem dX3_read_6 : decode cX3_read 6 = .ok (.getfield 36, 3) := by decide +kernel
theorem dX3_read_9 : decode cX3_read 9 = .ok (.if_icmp .ge 15, 3) := by decide +kernel
theorem dX3_read_12 : decode cX3_read 12 = .ok (.iload_n 1, 1) := by decide +kernel
theorem dX3_read_13 : decode cX3_read 13 = .ok (.aload_n 0, 1) := by decide +kernel
theorem dX3_read_14 : decode cX3_read 14 = .ok (.getfield 36, 3) := by decide +kernel
theorem dX3_read_17 : decode cX3_read 17 = .ok (.sipush 300, 3) := by decide +kernel
theorem dX3_read_20 : decode cX3_read 20 = .ok (.isub, 1) := by decide +kernel
theorem dX3_read_21 : decode cX3_read 21 = .ok (.if_icmp .ge 5, 3) := by decide +kernel
theorem dX3_read_24 : decode cX3_read 24 = .ok (.iconst (-1), 1) := by decide +kernel
theorem dX3_read_25 : decode cX3_read 25 = .ok (.ireturn, 1) := by decide +kernel
theorem dX3_read_26 : decode cX3_read 26 = .ok (.aload_n 0, 1) := by decide +kernel
theorem dX3_read_27 : decode cX3_read 27 = .ok (.getfield 15, 3) := by decide +kernel
theorem dX3_read_30 : decode cX3_read 30 = .ok (.iload_n 1, 1) := by decide +kernel
theorem dX3_read_31 : decode cX3_read 31 = .ok (.sipush 300, 3) := by decide +kernel
theorem dX3_read_34 : decode cX3_read 34 = .ok (.irem, 1) := by decide +kernel
theorem dX3_read_35 : decode cX3_read 35 = .ok (.iconst 5, 1) := by decide +kernel
theorem dX3_read_36 : decode cX3_read 36 = .ok (.imul, 1) := by decide +kernel
theorem dX3_read_37 : decode cX3_read 37 = .ok (.iload_n 2, 1) := by decide +kernel
theorem dX3_read_38 : decode cX3_read 38 = .ok (.iadd, 1) := by decide +kernel
theorem dX3_read_39 : decode cX3_read 39 = .ok (.iaload, 1) := by decide +kernel
theorem dX3_read_40 : decode cX3_read 40 = .ok (.ireturn, 1) := by decide +kernel
theorem dX4_init_0 : decode cX4_init 0 = .ok (.aload_n 0, 1) := by decide +kernel
theorem dX4_init_1 : decode cX4_init 1 = .ok (.invokespecial 3, 3) := by decide +kernel
theorem dX4_init_4 : decode cX4_init 4 = .ok (.aload_n 0, 1) := by decide +kernel
theorem dX4_init_5 : decode cX4_init 5 = .ok (.iconst 3, 1) := by decide +kernel
theorem dX4_init_6 : decode cX4_init 6 = .ok (.newarray .boolean, 2) := by decide +kernel
theorem dX4_init_8 : decode cX4_init 8 = .ok (.putfield 9, 3) := by decide +kernel
theorem dX4_init_11 : decode cX4_init 11 = .ok (.aload_n 0, 1) := by decide +kernel
theorem dX4_init_12 : decode cX4_init 12 = .ok (.iconst 3, 1) := by decide +kernel
theorem dX4_init_13 : decode cX4_init 13 = .ok (.newarray .long, 2) := by decide +kernel
theorem dX4_init_15 : decode cX4_init 15 = .ok (.putfield 15, 3) := by decide +kernel
theorem dX4_init_18 : decode cX4_init 18 = .ok (.aload_n 0, 1) := by decide +kernel
theorem dX4_init_19 : decode cX4_init 19 = .ok (.bipush 20, 2) := by decide +kernel
theorem dX4_init_21 : decode cX4_init 21 = .ok (.newarray .byte, 2) := by decide +kernel
theorem dX4_init_23 : decode cX4_init 23 = .ok (.putfield 19, 3) := by decide +kernel
theorem dX4_init_26 : decode cX4_init 26 = .ok (.aload_n 0, 1) := by decide +kernel
theorem dX4_init_27 : decode cX4_init 27 = .ok (.iconst (-1), 1) := by decide +kernel
theorem dX4_init_28 : decode cX4_init 28 = .ok (.putfield 23, 3) := by decide +kernel
theorem dX4_init_31 : decode cX4_init 31 = .ok (.aload_n 0, 1) := by decide +kernel
theorem dX4_init_32 : decode cX4_init 32 = .ok (.iload_n 1, 1) := by decide +kernel
theorem dX4_init_33 : decode cX4_init 33 = .ok (.putfield 27, 3) := by decide +kernel
theorem dX4_init_36 : decode cX4_init 36 = .ok (.return_, 1) := by decide +kernel
theorem dX4_isFree_0 : decode cX4_isFree 0 = .ok (.aload_n 0, 1) := by decide +kernel
theorem dX4_isFree_1 : decode cX4_isFree 1 = .ok (.getfield 30, 3) := by decide +kernel
theorem dX4_isFree_4 : decode cX4_isFree 4 = .ok (.ifCond .ne 14, 3) := by decide +kernel
theorem dX4_isFree_7 : decode cX4_isFree 7 = .ok (.aload_n 0, 1) := by decide +kernel
theorem dX4_isFree_8 : decode cX4_isFree 8 = .ok (.getfield 34, 3) := by decide +kernel
theorem dX4_isFree_11 : decode cX4_isFree 11 = .ok (.ifnonnull 7, 3) := by decide +kernel
theorem dX4_isFree_14 : decode cX4_isFree 14 = .ok (.iconst 1, 1) := by decide +kernel
theorem dX4_isFree_15 : decode cX4_isFree 15 = .ok (.goto 4, 3) := by decide +kernel
theorem dX4_isFree_18 : decode cX4_isFree 18 = .ok (.iconst 0, 1) := by decide +kernel
theorem dX4_isFree_19 : decode cX4_isFree 19 = .ok (.ireturn, 1) := by decide +kernel
theorem dX4_canTakeOther_0 : decode cX4_canTakeOther 0 = .ok (.aload_n 0, 1) := by decide +kernel
theorem dX4_canTakeOther_1 : decode cX4_canTakeOther 1 = .ok (.getfield 9, 3) := by decide +kernel
theorem dX4_canTakeOther_4 : decode cX4_canTakeOther 4 = .ok (.iconst 2, 1) := by decide +kernel
theorem dX4_canTakeOther_5 : decode cX4_canTakeOther 5 = .ok (.baload, 1) := by decide +kernel
theorem dX4_canTakeOther_6 : decode cX4_canTakeOther 6 = .ok (.ifCond .eq 32, 3) := by decide +kernel
theorem dX4_canTakeOther_9 : decode cX4_canTakeOther 9 = .ok (.aload_n 0, 1) := by decide +kernel
theorem dX4_canTakeOther_10 : decode cX4_canTakeOther 10 = .ok (.getfield 38, 3) := by decide +kernel
theorem dX4_canTakeOther_13 : decode cX4_canTakeOther 13 = .ok (.ifnull 25, 3) := by decide +kernel
theorem dX4_canTakeOther_16 : decode cX4_canTakeOther 16 = .ok (.aload_n 0, 1) := by decide +kernel
theorem dX4_canTakeOther_17 : decode cX4_canTakeOther 17 = .ok (.getfield 38, 3) := by decide +kernel
theorem dX4_canTakeOther_20 : decode cX4_canTakeOther 20 = .ok (.getfield 41, 3) := by decide +kernel
theorem dX4_canTakeOther_23 : decode cX4_canTakeOther 23 = .ok (.iconst 3, 1) := by decide +kernel
theorem dX4_canTakeOther_24 : decode cX4_canTakeOther 24 = .ok (.if_icmp .ne 14, 3) := by decide +kernel
theorem dX4_canTakeOther_27 : decode cX4_canTakeOther 27 = .ok (.aload_n 0, 1) := by decide +kernel
theorem dX4_canTakeOther_28 : decode cX4_canTakeOther 28 = .ok (.getfield 46, 3) := by decide +kernel
theorem dX4_canTakeOther_31 : decode cX4_canTakeOther 31 = .ok (.ifnonnull 7, 3) := by decide +kernel
theorem dX4_canTakeOther_34 : decode cX4_canTakeOther 34 = .ok (.iconst 1, 1) := by decide +kernel
theorem dX4_canTakeOther_35 : decode cX4_canTakeOther 35 = .ok (.goto 4, 3) := by decide +kernel
theorem dX4_canTakeOther_38 : decode cX4_canTakeOther 38 = .ok (.iconst 0, 1) := by decide +kernel
theorem dX4_canTakeOther_39 : decode cX4_canTakeOther 39 = .ok (.ireturn, 1) := by decide +kernel
theorem dX4_lookAtLoop_0 : decode cX4_lookAtLoop 0 = .ok (.aload_n 0, 1) := by decide +kernel
theorem dX4_lookAtLoop_1 : decode cX4_lookAtLoop 1 = .ok (.getfield 30, 3) := by decide +kernel
theorem dX4_lookAtLoop_4 : decode cX4_lookAtLoop 4 = .ok (.ifCond .ne 21, 3) := by decide +kernel
theorem dX4_lookAtLoop_7 : decode cX4_lookAtLoop 7 = .ok (.aload_n 0, 1) := by decide +kernel
theorem dX4_lookAtLoop_8 : decode cX4_lookAtLoop 8 = .ok (.getfield 49, 3) := by decide +kernel
theorem dX4_lookAtLoop_11 : decode cX4_lookAtLoop 11 = .ok (.ifCond .eq 12, 3) := by decide +kernel
theorem dX4_lookAtLoop_14 : decode cX4_lookAtLoop 14 = .ok (.aload_n 0, 1) := by decide +kernel
theorem dX4_lookAtLoop_15 : decode cX4_lookAtLoop 15 = .ok (.iconst 1, 1) := by decide +kernel
theorem dX4_lookAtLoop_16 : decode cX4_lookAtLoop 16 = .ok (.iconst 1, 1) := by decide +kernel
theorem dX4_lookAtLoop_17 : decode cX4_lookAtLoop 17 = .ok (.invokevirtual 52, 3) := by decide +kernel
theorem dX4_lookAtLoop_20 : decode cX4_lookAtLoop 20 = .ok (.goto 4, 3) := by decide +kernel
theorem dX4_lookAtLoop_23 : decode cX4_lookAtLoop 23 = .ok (.iconst 0, 1) := by decide +kernel
theorem dX4_lookAtLoop_24 : decode cX4_lookAtLoop 24 = .ok (.ireturn, 1) := by decide +kernel
theorem dX4_lookAtLoop_25 : decode cX4_lookAtLoop 25 = .ok (.aload_n 0, 1) := by decide +kernel
theorem dX4_lookAtLoop_26 : decode cX4_lookAtLoop 26 = .ok (.getfield 49, 3) := by decide +kernel
theorem dX4_lookAtLoop_29 : decode cX4_lookAtLoop 29 = .ok (.ifCond .ne 33, 3) := by decide +kernel
theorem dX4_lookAtLoop_32 : decode cX4_lookAtLoop 32 = .ok (.aload_n 0, 1) := by decide +kernel
theorem dX4_lookAtLoop_33 : decode cX4_lookAtLoop 33 = .ok (.dup, 1) := by decide +kernel
theorem dX4_lookAtLoop_34 : decode cX4_lookAtLoop 34 = .ok (.getfield 56, 3) := by decide +kernel
theorem dX4_lookAtLoop_37 : decode cX4_lookAtLoop 37 = .ok (.iconst 1, 1) := by decide +kernel
theorem dX4_lookAtLoop_38 : decode cX4_lookAtLoop 38 = .ok (.iadd, 1) := by decide +kernel
theorem dX4_lookAtLoop_39 : decode cX4_lookAtLoop 39 = .ok (.putfield 56, 3) := by decide +kernel
theorem dX4_lookAtLoop_42 : decode cX4_lookAtLoop 42 = .ok (.aload_n 0, 1) := by decide +kernel
theorem dX4_lookAtLoop_43 : decode cX4_lookAtLoop 43 = .ok (.getfield 56, 3) := by decide +kernel
theorem dX4_lookAtLoop_46 : decode cX4_lookAtLoop 46 = .ok (.bipush 40, 2) := by decide +kernel
theorem dX4_lookAtLoop_48 : decode cX4_lookAtLoop 48 = .ok (.if_icmp .lt 12, 3) := by decide +kernel
theorem dX4_lookAtLoop_51 : decode cX4_lookAtLoop 51 = .ok (.aload_n 0, 1) := by decide +kernel
theorem dX4_lookAtLoop_52 : decode cX4_lookAtLoop 52 = .ok (.iconst 0, 1) := by decide +kernel
theorem dX4_lookAtLoop_53 : decode cX4_lookAtLoop 53 = .ok (.iconst 2, 1) := by decide +kernel
theorem dX4_lookAtLoop_54 : decode cX4_lookAtLoop 54 = .ok (.invokevirtual 52, 3) := by decide +kernel
theorem dX4_lookAtLoop_57 : decode cX4_lookAtLoop 57 = .ok (.goto 4, 3) := by decide +kernel
theorem dX4_lookAtLoop_60 : decode cX4_lookAtLoop 60 = .ok (.iconst 0, 1) := by decide +kernel
theorem dX4_lookAtLoop_61 : decode cX4_lookAtLoop 61 = .ok (.ireturn, 1) := by decide +kernel
theorem dX4_lookAtLoop_62 : decode cX4_lookAtLoop 62 = .ok (.aload_n 0, 1) := by decide +kernel
theorem dX4_lookAtLoop_63 : decode cX4_lookAtLoop 63 = .ok (.getfield 56, 3) := by decide +kernel
theorem dX4_lookAtLoop_66 : decode cX4_lookAtLoop 66 = .ok (.istore_n 1, 1) := by decide +kernel
theorem dX4_lookAtLoop_67 : decode cX4_lookAtLoop 67 = .ok (.aload_n 0, 1) := by decide +kernel
theorem dX4_lookAtLoop_68 : decode cX4_lookAtLoop 68 = .ok (.iconst 0, 1) := by decide +kernel
theorem dX4_lookAtLoop_69 : decode cX4_lookAtLoop 69 = .ok (.putfield 56, 3) := by decide +kernel
theorem dX4_lookAtLoop_72 : decode cX4_lookAtLoop 72 = .ok (.iload_n 1, 1) := by decide +kernel
theorem dX4_lookAtLoop_73 : decode cX4_lookAtLoop 73 = .ok (.bipush 10, 2) := by decide +kernel
theorem dX4_lookAtLoop_75 : decode cX4_lookAtLoop 75 = .ok (.if_icmp .lt 10, 3) := by decide +kernel
theorem dX4_lookAtLoop_78 : decode cX4_lookAtLoop 78 = .ok (.aload_n 0, 1) := by decide +kernel
theorem dX4_lookAtLoop_79 : decode cX4_lookAtLoop 79 = .ok (.iconst 0, 1) := by decide +kernel
theorem dX4_lookAtLoop_80 : decode cX4_lookAtLoop 80 = .ok (.putfield 59, 3) := by decide +kernel
theorem dX4_lookAtLoop_83 : decode cX4_lookAtLoop 83 = .ok (.iconst 3, 1) := by decide +kernel
theorem dX4_lookAtLoop_84 : decode cX4_lookAtLoop 84 = .ok (.ireturn, 1) := by decide +kernel
theorem dX4_lookAtLoop_85 : decode cX4_lookAtLoop 85 = .ok (.iload_n 1, 1) := by decide +kernel
theorem dX4_lookAtLoop_86 : decode cX4_lookAtLoop 86 = .ok (.ifCond .le 18, 3) := by decide +kernel
theorem dX4_lookAtLoop_89 : decode cX4_lookAtLoop 89 = .ok (.aload_n 0, 1) := by decide +kernel
theorem dX4_lookAtLoop_90 : decode cX4_lookAtLoop 90 = .ok (.dup, 1) := by decide +kernel
theorem dX4_lookAtLoop_91 : decode cX4_lookAtLoop 91 = .ok (.getfield 59, 3) := by decide +kernel
theorem dX4_lookAtLoop_94 : decode cX4_lookAtLoop 94 = .ok (.iconst 1, 1) := by decide +kernel
theorem dX4_lookAtLoop_95 : decode cX4_lookAtLoop 95 = .ok (.iadd, 1) := by decide +kernel
theorem dX4_lookAtLoop_96 : decode cX4_lookAtLoop 96 = .ok (.putfield 59, 3) := by decide +kernel
theorem dX4_lookAtLoop_99 : decode cX4_lookAtLoop 99 = .ok (.aload_n 0, 1) := by decide +kernel
theorem dX4_lookAtLoop_100 : decode cX4_lookAtLoop 100 = .ok (.iconst 0, 1) := by decide +kernel
theorem dX4_lookAtLoop_101 : decode cX4_lookAtLoop 101 = .ok (.putfield 62, 3) := by decide +kernel
theorem dX4_lookAtLoop_104 : decode cX4_lookAtLoop 104 = .ok (.iconst 0, 1) := by decide +kernel
theorem dX4_lookAtLoop_105 : decode cX4_lookAtLoop 105 = .ok (.ireturn, 1) := by decide +kernel
theorem dX4_change_0 : decode cX4_change 0 = .ok (.aload_n 0, 1) := by decide +kernel
theorem dX4_change_1 : decode cX4_change 1 = .ok (.iload_n 1, 1) := by decide +kernel
theorem dX4_change_2 : decode cX4_change 2 = .ok (.putfield 30, 3) := by decide +kernel
theorem dX4_change_5 : decode cX4_change 5 = .ok (.aload_n 0, 1) := by decide +kernel
theorem dX4_change_6 : decode cX4_change 6 = .ok (.iconst 0, 1) := by decide +kernel
theorem dX4_change_7 : decode cX4_change 7 = .ok (.putfield 56, 3) := by decide +kernel
theorem dX4_change_10 : decode cX4_change 10 = .ok (.aload_n 0, 1) := by decide +kernel
theorem dX4_change_11 : decode cX4_change 11 = .ok (.iconst 0, 1) := by decide +kernel
theorem dX4_change_12 : decode cX4_change 12 = .ok (.putfield 62, 3) := by decide +kernel
theorem dX4_change_15 : decode cX4_change 15 = .ok (.aload_n 0, 1) := by decide +kernel
theorem dX4_change_16 : decode cX4_change 16 = .ok (.iconst 0, 1) := by decide +kernel
theorem dX4_change_17 : decode cX4_change 17 = .ok (.putfield 59, 3) := by decide +kernel
theorem dX4_change_20 : decode cX4_change 20 = .ok (.aload_n 0, 1) := by decide +kernel
theorem dX4_change_21 : decode cX4_change 21 = .ok (.iconst 0, 1) := by decide +kernel
theorem dX4_change_22 : decode cX4_change 22 = .ok (.putfield 65, 3) := by decide +kernel
theorem dX4_change_25 : decode cX4_change 25 = .ok (.iload_n 2, 1) := by decide +kernel
theorem dX4_change_26 : decode cX4_change 26 = .ok (.ireturn, 1) := by decide +kernel
theorem dX4_keyOfThisTick_0 : decode cX4_keyOfThisTick 0 = .ok (.aload_n 0, 1) := by decide +kernel
theorem dX4_keyOfThisTick_1 : decode cX4_keyOfThisTick 1 = .ok (.getfield 30, 3) := by decide +kernel
theorem dX4_keyOfThisTick_4 : decode cX4_keyOfThisTick 4 = .ok (.ifCond .eq 10, 3) := by decide +kernel
theorem dX4_keyOfThisTick_7 : decode cX4_keyOfThisTick 7 = .ok (.aload_n 0, 1) := by decide +kernel
theorem dX4_keyOfThisTick_8 : decode cX4_keyOfThisTick 8 = .ok (.getfield 49, 3) := by decide +kernel
theorem dX4_keyOfThisTick_11 : decode cX4_keyOfThisTick 11 = .ok (.ifCond .ne 5, 3) := by decide +kernel
theorem dX4_keyOfThisTick_14 : decode cX4_keyOfThisTick 14 = .ok (.iconst (-1), 1) := by decide +kernel
theorem dX4_keyOfThisTick_15 : decode cX4_keyOfThisTick 15 = .ok (.ireturn, 1) := by decide +kernel
theorem dX4_keyOfThisTick_16 : decode cX4_keyOfThisTick 16 = .ok (.aload_n 0, 1) := by decide +kernel
theorem dX4_keyOfThisTick_17 : decode cX4_keyOfThisTick 17 = .ok (.getfield 59, 3) := by decide +kernel
theorem dX4_keyOfThisTick_20 : decode cX4_keyOfThisTick 20 = .ok (.ifCond .le 49, 3) := by decide +kernel
theorem dX4_keyOfThisTick_23 : decode cX4_keyOfThisTick 23 = .ok (.aload_n 0, 1) := by decide +kernel
theorem dX4_keyOfThisTick_24 : decode cX4_keyOfThisTick 24 = .ok (.dup, 1) := by decide +kernel
theorem dX4_keyOfThisTick_25 : decode cX4_keyOfThisTick 25 = .ok (.getfield 62, 3) := by decide +kernel
theorem dX4_keyOfThisTick_28 : decode cX4_keyOfThisTick 28 = .ok (.iconst 1, 1) := by decide +kernel
theorem dX4_keyOfThisTick_29 : decode cX4_keyOfThisTick 29 = .ok (.iadd, 1) := by decide +kernel
theorem dX4_keyOfThisTick_30 : decode cX4_keyOfThisTick 30 = .ok (.putfield 62, 3) := by decide +kernel
theorem dX4_keyOfThisTick_33 : decode cX4_keyOfThisTick 33 = .ok (.aload_n 0, 1) := by decide +kernel
theorem dX4_keyOfThisTick_34 : decode cX4_keyOfThisTick 34 = .ok (.getfield 62, 3) := by decide +kernel
theorem dX4_keyOfThisTick_37 : decode cX4_keyOfThisTick 37 = .ok (.bipush 20, 2) := by decide +kernel
theorem dX4_keyOfThisTick_39 : decode cX4_keyOfThisTick 39 = .ok (.if_icmp .ge 5, 3) := by decide +kernel
theorem dX4_keyOfThisTick_42 : decode cX4_keyOfThisTick 42 = .ok (.iconst (-1), 1) := by decide +kernel
theorem dX4_keyOfThisTick_43 : decode cX4_keyOfThisTick 43 = .ok (.ireturn, 1) := by decide +kernel
theorem dX4_keyOfThisTick_44 : decode cX4_keyOfThisTick 44 = .ok (.aload_n 0, 1) := by decide +kernel
theorem dX4_keyOfThisTick_45 : decode cX4_keyOfThisTick 45 = .ok (.getfield 59, 3) := by decide +kernel
theorem dX4_keyOfThisTick_48 : decode cX4_keyOfThisTick 48 = .ok (.istore_n 1, 1) := by decide +kernel
theorem dX4_keyOfThisTick_49 : decode cX4_keyOfThisTick 49 = .ok (.aload_n 0, 1) := by decide +kernel
theorem dX4_keyOfThisTick_50 : decode cX4_keyOfThisTick 50 = .ok (.iconst 0, 1) := by decide +kernel
theorem dX4_keyOfThisTick_51 : decode cX4_keyOfThisTick 51 = .ok (.putfield 59, 3) := by decide +kernel
theorem dX4_keyOfThisTick_54 : decode cX4_keyOfThisTick 54 = .ok (.iload_n 1, 1) := by decide +kernel
theorem dX4_keyOfThisTick_55 : decode cX4_keyOfThisTick 55 = .ok (.bipush 10, 2) := by decide +kernel
theorem dX4_keyOfThisTick_57 : decode cX4_keyOfThisTick 57 = .ok (.if_icmp .gt 10, 3) := by decide +kernel
theorem dX4_keyOfThisTick_60 : decode cX4_keyOfThisTick 60 = .ok (.iload_n 1, 1) := by decide +kernel
theorem dX4_keyOfThisTick_61 : decode cX4_keyOfThisTick 61 = .ok (.bipush 10, 2) := by decide +kernel
theorem dX4_keyOfThisTick_63 : decode cX4_keyOfThisTick 63 = .ok (.irem, 1) := by decide +kernel
theorem dX4_keyOfThisTick_64 : decode cX4_keyOfThisTick 64 = .ok (.goto 4, 3) := by decide +kernel
theorem dX4_keyOfThisTick_67 : decode cX4_keyOfThisTick 67 = .ok (.iconst (-1), 1) := by decide +kernel
theorem dX4_keyOfThisTick_68 : decode cX4_keyOfThisTick 68 = .ok (.ireturn, 1) := by decide +kernel
theorem dX4_keyOfThisTick_69 : decode cX4_keyOfThisTick 69 = .ok (.aload_n 0, 1) := by decide +kernel
theorem dX4_keyOfThisTick_70 : decode cX4_keyOfThisTick 70 = .ok (.getfield 65, 3) := by decide +kernel
theorem dX4_keyOfThisTick_73 : decode cX4_keyOfThisTick 73 = .ok (.ifCond .ne 5, 3) := by decide +kernel
theorem dX4_keyOfThisTick_76 : decode cX4_keyOfThisTick 76 = .ok (.iconst (-1), 1) := by decide +kernel
theorem dX4_keyOfThisTick_77 : decode cX4_keyOfThisTick 77 = .ok (.ireturn, 1) := by decide +kernel
theorem dX4_keyOfThisTick_78 : decode cX4_keyOfThisTick 78 = .ok (.aload_n 0, 1) := by decide +kernel
theorem dX4_keyOfThisTick_79 : decode cX4_keyOfThisTick 79 = .ok (.getfield 19, 3) := by decide +kernel
theorem dX4_keyOfThisTick_82 : decode cX4_keyOfThisTick 82 = .ok (.iconst 0, 1) := by decide +kernel
theorem dX4_keyOfThisTick_83 : decode cX4_keyOfThisTick 83 = .ok (.baload, 1) := by decide +kernel
theorem dX4_keyOfThisTick_84 : decode cX4_keyOfThisTick 84 = .ok (.istore_n 1, 1) := by decide +kernel
theorem dX4_keyOfThisTick_85 : decode cX4_keyOfThisTick 85 = .ok (.aload_n 0, 1) := by decide +kernel
theorem dX4_keyOfThisTick_86 : decode cX4_keyOfThisTick 86 = .ok (.dup, 1) := by decide +kernel
theorem dX4_keyOfThisTick_87 : decode cX4_keyOfThisTick 87 = .ok (.getfield 65, 3) := by decide +kernel
theorem dX4_keyOfThisTick_90 : decode cX4_keyOfThisTick 90 = .ok (.iconst 1, 1) := by decide +kernel
theorem dX4_keyOfThisTick_91 : decode cX4_keyOfThisTick 91 = .ok (.isub, 1) := by decide +kernel
theorem dX4_keyOfThisTick_92 : decode cX4_keyOfThisTick 92 = .ok (.putfield 65, 3) := by decide +kernel
theorem dX4_keyOfThisTick_95 : decode cX4_keyOfThisTick 95 = .ok (.iconst 0, 1) := by decide +kernel
theorem dX4_keyOfThisTick_96 : decode cX4_keyOfThisTick 96 = .ok (.istore_n 2, 1) := by decide +kernel
theorem dX4_keyOfThisTick_97 : decode cX4_keyOfThisTick 97 = .ok (.iload_n 2, 1) := by decide +kernel
theorem dX4_keyOfThisTick_98 : decode cX4_keyOfThisTick 98 = .ok (.aload_n 0, 1) := by decide +kernel
theorem dX4_keyOfThisTick_99 : decode cX4_keyOfThisTick 99 = .ok (.getfield 65, 3) := by decide +kernel
theorem dX4_keyOfThisTick_102 : decode cX4_keyOfThisTick 102 = .ok (.if_icmp .ge 23, 3) := by decide +kernel
theorem dX4_keyOfThisTick_105 : decode cX4_keyOfThisTick 105 = .ok (.aload_n 0, 1) := by decide +kernel
theorem dX4_keyOfThisTick_106 : decode cX4_keyOfThisTick 106 = .ok (.getfield 19, 3) := by decide +kernel
theorem dX4_keyOfThisTick_109 : decode cX4_keyOfThisTick 109 = .ok (.iload_n 2, 1) := by decide +kernel
theorem dX4_keyOfThisTick_110 : decode cX4_keyOfThisTick 110 = .ok (.aload_n 0, 1) := by decide +kernel
theorem dX4_keyOfThisTick_111 : decode cX4_keyOfThisTick 111 = .ok (.getfield 19, 3) := by decide +kernel
theorem dX4_keyOfThisTick_114 : decode cX4_keyOfThisTick 114 = .ok (.iload_n 2, 1) := by decide +kernel
theorem dX4_keyOfThisTick_115 : decode cX4_keyOfThisTick 115 = .ok (.iconst 1, 1) := by decide +kernel
theorem dX4_keyOfThisTick_116 : decode cX4_keyOfThisTick 116 = .ok (.iadd, 1) := by decide +kernel
theorem dX4_keyOfThisTick_117 : decode cX4_keyOfThisTick 117 = .ok (.baload, 1) := by decide +kernel
theorem dX4_keyOfThisTick_118 : decode cX4_keyOfThisTick 118 = .ok (.bastore, 1) := by decide +kernel
theorem dX4_keyOfThisTick_119 : decode cX4_keyOfThisTick 119 = .ok (.iinc 2 1, 3) := by decide +kernel
theorem dX4_keyOfThisTick_122 : decode cX4_keyOfThisTick 122 = .ok (.goto (-25), 3) := by decide +kernel
theorem dX4_keyOfThisTick_125 : decode cX4_keyOfThisTick 125 = .ok (.iload_n 1, 1) := by decide +kernel
theorem dX4_keyOfThisTick_126 : decode cX4_keyOfThisTick 126 = .ok (.ireturn, 1) := by decide +kernel
theorem dX4_sound_0 : decode cX4_sound 0 = .ok (.aload_n 0, 1) := by decide +kernel
theorem dX4_sound_1 : decode cX4_sound 1 = .ok (.getfield 30, 3) := by decide +kernel
theorem dX4_sound_4 : decode cX4_sound 4 = .ok (.ifCond .ne 16, 3) := by decide +kernel
theorem dX4_sound_7 : decode cX4_sound 7 = .ok (.aload_n 0, 1) := by decide +kernel
theorem dX4_sound_8 : decode cX4_sound 8 = .ok (.getfield 34, 3) := by decide +kernel
theorem dX4_sound_11 : decode cX4_sound 11 = .ok (.ifnull 7, 3) := by decide +kernel
theorem dX4_sound_14 : decode cX4_sound 14 = .ok (.iconst 5, 1) := by decide +kernel
theorem dX4_sound_15 : decode cX4_sound 15 = .ok (.goto 4, 3) := by decide +kernel
theorem dX4_sound_18 : decode cX4_sound 18 = .ok (.iconst 0, 1) := by decide +kernel
theorem dX4_sound_19 : decode cX4_sound 19 = .ok (.ireturn, 1) := by decide +kernel
theorem dX4_sound_20 : decode cX4_sound 20 = .ok (.aload_n 0, 1) := by decide +kernel
theorem dX4_sound_21 : decode cX4_sound 21 = .ok (.getfield 38, 3) := by decide +kernel
theorem dX4_sound_24 : decode cX4_sound 24 = .ok (.ifnonnull 8, 3) := by decide +kernel
theorem dX4_sound_27 : decode cX4_sound 27 = .ok (.aload_n 0, 1) := by decide +kernel
theorem dX4_sound_28 : decode cX4_sound 28 = .ok (.getfield 68, 3) := by decide +kernel
theorem dX4_sound_31 : decode cX4_sound 31 = .ok (.ireturn, 1) := by decide +kernel
theorem dX4_sound_32 : decode cX4_sound 32 = .ok (.aload_n 0, 1) := by decide +kernel
theorem dX4_sound_33 : decode cX4_sound 33 = .ok (.getfield 38, 3) := by decide +kernel
theorem dX4_sound_36 : decode cX4_sound 36 = .ok (.getfield 41, 3) := by decide +kernel
theorem dX4_sound_39 : decode cX4_sound 39 = .ok (.tableswitch 82 0 4 #[33, 82, 51, 56, 53], 33) := by decide +kernel
theorem dX4_sound_72 : decode cX4_sound 72 = .ok (.aload_n 0, 1) := by decide +kernel
theorem dX4_sound_73 : decode cX4_sound 73 = .ok (.getfield 38, 3) := by decide +kernel
theorem dX4_sound_76 : decode cX4_sound 76 = .ok (.getfield 71, 3) := by decide +kernel
theorem dX4_sound_79 : decode cX4_sound 79 = .ok (.lconst 0, 1) := by decide +kernel
theorem dX4_sound_80 : decode cX4_sound 80 = .ok (.lcmp, 1) := by decide +kernel
theorem dX4_sound_81 : decode cX4_sound 81 = .ok (.ifCond .ne 7, 3) := by decide +kernel
theorem dX4_sound_84 : decode cX4_sound 84 = .ok (.iconst 1, 1) := by decide +kernel
theorem dX4_sound_85 : decode cX4_sound 85 = .ok (.goto 4, 3) := by decide +kernel
theorem dX4_sound_88 : decode cX4_sound 88 = .ok (.iconst 0, 1) := by decide +kernel
theorem dX4_sound_89 : decode cX4_sound 89 = .ok (.ireturn, 1) := by decide +kernel
theorem dX4_sound_90 : decode cX4_sound 90 = .ok (.iconst 2, 1) := by decide +kernel
theorem dX4_sound_91 : decode cX4_sound 91 = .ok (.ireturn, 1) := by decide +kernel
theorem dX4_sound_92 : decode cX4_sound 92 = .ok (.bipush 6, 2) := by decide +kernel
theorem dX4_sound_94 : decode cX4_sound 94 = .ok (.ireturn, 1) := by decide +kernel
theorem dX4_sound_95 : decode cX4_sound 95 = .ok (.aload_n 0, 1) := by decide +kernel
theorem dX4_sound_96 : decode cX4_sound 96 = .ok (.getfield 46, 3) := by decide +kernel
theorem dX4_sound_99 : decode cX4_sound 99 = .ok (.ifnull 19, 3) := by decide +kernel
theorem dX4_sound_102 : decode cX4_sound 102 = .ok (.aload_n 0, 1) := by decide +kernel
theorem dX4_sound_103 : decode cX4_sound 103 = .ok (.getfield 46, 3) := by decide +kernel
theorem dX4_sound_106 : decode cX4_sound 106 = .ok (.getfield 41, 3) := by decide +kernel
theorem dX4_sound_109 : decode cX4_sound 109 = .ok (.iconst 2, 1) := by decide +kernel
theorem dX4_sound_110 : decode cX4_sound 110 = .ok (.if_icmp .ne 8, 3) := by decide +kernel
theorem dX4_sound_113 : decode cX4_sound 113 = .ok (.bipush 8, 2) := by decide +kernel
theorem dX4_sound_115 : decode cX4_sound 115 = .ok (.goto 5, 3) := by decide +kernel
theorem dX4_sound_118 : decode cX4_sound 118 = .ok (.bipush 7, 2) := by decide +kernel
theorem dX4_sound_120 : decode cX4_sound 120 = .ok (.ireturn, 1) := by decide +kernel
theorem dX4_sound_121 : decode cX4_sound 121 = .ok (.iconst 0, 1) := by decide +kernel
theorem dX4_sound_122 : decode cX4_sound 122 = .ok (.ireturn, 1) := by decide +kernel
theorem dX5_init_0 : decode cX5_init 0 = .ok (.aload_n 0, 1) := by decide +kernel
theorem dX5_init_1 : decode cX5_init 1 = .ok (.invokespecial 3, 3) := by decide +kernel
theorem dX5_init_4 : decode cX5_init 4 = .ok (.aload_n 0, 1) := by decide +kernel
theorem dX5_init_5 : decode cX5_init 5 = .ok (.iconst 1, 1) := by decide +kernel
theorem dX5_init_6 : decode cX5_init 6 = .ok (.putfield 9, 3) := by decide +kernel
theorem dX5_init_9 : decode cX5_init 9 = .ok (.aload_n 0, 1) := by decide +kernel
theorem dX5_init_10 : decode cX5_init 10 = .ok (.iconst 1, 1) := by decide +kernel
theorem dX5_init_11 : decode cX5_init 11 = .ok (.putfield 15, 3) := by decide +kernel
theorem dX5_init_14 : decode cX5_init 14 = .ok (.aload_n 0, 1) := by decide +kernel
theorem dX5_init_15 : decode cX5_init 15 = .ok (.sipush 200, 3) := by decide +kernel
theorem dX5_init_18 : decode cX5_init 18 = .ok (.newarray .long, 2) := by decide +kernel
theorem dX5_init_20 : decode cX5_init 20 = .ok (.putfield 18, 3) := by decide +kernel
theorem dX5_init_23 : decode cX5_init 23 = .ok (.aload_n 0, 1) := by decide +kernel
theorem dX5_init_24 : decode cX5_init 24 = .ok (.bipush 64, 2) := by decide +kernel
theorem dX5_init_26 : decode cX5_init 26 = .ok (.anewarray 22, 3) := by decide +kernel
theorem dX5_init_29 : decode cX5_init 29 = .ok (.putfield 24, 3) := by decide +kernel
theorem dX5_init_32 : decode cX5_init 32 = .ok (.aload_n 0, 1) := by decide +kernel
theorem dX5_init_33 : decode cX5_init 33 = .ok (.iconst 2, 1) := by decide +kernel
theorem dX5_init_34 : decode cX5_init 34 = .ok (.anewarray 22, 3) := by decide +kernel
theorem dX5_init_37 : decode cX5_init 37 = .ok (.putfield 28, 3) := by decide +kernel
theorem dX5_init_40 : decode cX5_init 40 = .ok (.iconst 0, 1) := by decide +kernel
theorem dX5_init_41 : decode cX5_init 41 = .ok (.istore_n 1, 1) := by decide +kernel
theorem dX5_init_42 : decode cX5_init 42 = .ok (.iload_n 1, 1) := by decide +kernel
theorem dX5_init_43 : decode cX5_init 43 = .ok (.bipush 64, 2) := by decide +kernel
theorem dX5_init_45 : decode cX5_init 45 = .ok (.if_icmp .ge 22, 3) := by decide +kernel
theorem dX5_init_48 : decode cX5_init 48 = .ok (.aload_n 0, 1) := by decide +kernel
theorem dX5_init_49 : decode cX5_init 49 = .ok (.getfield 24, 3) := by decide +kernel
theorem dX5_init_52 : decode cX5_init 52 = .ok (.iload_n 1, 1) := by decide +kernel
theorem dX5_init_53 : decode cX5_init 53 = .ok (.new 22, 3) := by decide +kernel
theorem dX5_init_56 : decode cX5_init 56 = .ok (.dup, 1) := by decide +kernel
theorem dX5_init_57 : decode cX5_init 57 = .ok (.invokespecial 31, 3) := by decide +kernel
theorem dX5_init_60 : decode cX5_init 60 = .ok (.aastore, 1) := by decide +kernel
theorem dX5_init_61 : decode cX5_init 61 = .ok (.iinc 1 1, 3) := by decide +kernel
theorem dX5_init_64 : decode cX5_init 64 = .ok (.goto (-22), 3) := by decide +kernel
theorem dX5_init_67 : decode cX5_init 67 = .ok (.iconst 0, 1) := by decide +kernel
theorem dX5_init_68 : decode cX5_init 68 = .ok (.istore_n 1, 1) := by decide +kernel
theorem dX5_init_69 : decode cX5_init 69 = .ok (.iload_n 1, 1) := by decide +kernel
theorem dX5_init_70 : decode cX5_init 70 = .ok (.aload_n 0, 1) := by decide +kernel
theorem dX5_init_71 : decode cX5_init 71 = .ok (.getfield 28, 3) := by decide +kernel
theorem dX5_init_74 : decode cX5_init 74 = .ok (.arraylength, 1) := by decide +kernel
theorem dX5_init_75 : decode cX5_init 75 = .ok (.if_icmp .ge 22, 3) := by decide +kernel
theorem dX5_init_78 : decode cX5_init 78 = .ok (.aload_n 0, 1) := by decide +kernel
theorem dX5_init_79 : decode cX5_init 79 = .ok (.getfield 28, 3) := by decide +kernel
theorem dX5_init_82 : decode cX5_init 82 = .ok (.iload_n 1, 1) := by decide +kernel
theorem dX5_init_83 : decode cX5_init 83 = .ok (.new 22, 3) := by decide +kernel
theorem dX5_init_86 : decode cX5_init 86 = .ok (.dup, 1) := by decide +kernel
theorem dX5_init_87 : decode cX5_init 87 = .ok (.invokespecial 31, 3) := by decide +kernel
theorem dX5_init_90 : decode cX5_init 90 = .ok (.aastore, 1) := by decide +kernel
theorem dX5_init_91 : decode cX5_init 91 = .ok (.iinc 1 1, 3) := by decide +kernel
theorem dX5_init_94 : decode cX5_init 94 = .ok (.goto (-25), 3) := by decide +kernel
