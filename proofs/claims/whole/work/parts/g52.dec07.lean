theorem dX12_flashes_4 : decode cX12_flashes 4 = .ok (.iload_n 1, 1) := by decide +kernel
theorem dX12_flashes_5 : decode cX12_flashes 5 = .ok (.iaload, 1) := by decide +kernel
theorem dX12_flashes_6 : decode cX12_flashes 6 = .ok (.iconst (-1), 1) := by decide +kernel
theorem dX12_flashes_7 : decode cX12_flashes 7 = .ok (.if_icmp .ne 4, 3) := by decide +kernel
theorem dX12_flashes_10 : decode cX12_flashes 10 = .ok (.return_, 1) := by decide +kernel
theorem dX12_flashes_11 : decode cX12_flashes 11 = .ok (.aload_n 0, 1) := by decide +kernel
theorem dX12_flashes_12 : decode cX12_flashes 12 = .ok (.getfield 59, 3) := by decide +kernel
theorem dX12_flashes_15 : decode cX12_flashes 15 = .ok (.iload_n 1, 1) := by decide +kernel
theorem dX12_flashes_16 : decode cX12_flashes 16 = .ok (.iaload, 1) := by decide +kernel
theorem dX12_flashes_17 : decode cX12_flashes 17 = .ok (.istore_n 2, 1) := by decide +kernel
theorem dX12_flashes_18 : decode cX12_flashes 18 = .ok (.aload_n 0, 1) := by decide +kernel
theorem dX12_flashes_19 : decode cX12_flashes 19 = .ok (.getfield 59, 3) := by decide +kernel
theorem dX12_flashes_22 : decode cX12_flashes 22 = .ok (.iload_n 1, 1) := by decide +kernel
theorem dX12_flashes_23 : decode cX12_flashes 23 = .ok (.aload_n 0, 1) := by decide +kernel
theorem dX12_flashes_24 : decode cX12_flashes 24 = .ok (.getfield 56, 3) := by decide +kernel
theorem dX12_flashes_27 : decode cX12_flashes 27 = .ok (.iload_n 1, 1) := by decide +kernel
theorem dX12_flashes_28 : decode cX12_flashes 28 = .ok (.iaload, 1) := by decide +kernel
theorem dX12_flashes_29 : decode cX12_flashes 29 = .ok (.iastore, 1) := by decide +kernel
theorem dX12_flashes_30 : decode cX12_flashes 30 = .ok (.aload_n 0, 1) := by decide +kernel
theorem dX12_flashes_31 : decode cX12_flashes 31 = .ok (.getfield 56, 3) := by decide +kernel
theorem dX12_flashes_34 : decode cX12_flashes 34 = .ok (.iload_n 1, 1) := by decide +kernel
theorem dX12_flashes_35 : decode cX12_flashes 35 = .ok (.iload_n 2, 1) := by decide +kernel
theorem dX12_flashes_36 : decode cX12_flashes 36 = .ok (.iastore, 1) := by decide +kernel
theorem dX12_flashes_37 : decode cX12_flashes 37 = .ok (.aload_n 0, 1) := by decide +kernel
theorem dX12_flashes_38 : decode cX12_flashes 38 = .ok (.getfield 95, 3) := by decide +kernel
theorem dX12_flashes_41 : decode cX12_flashes 41 = .ok (.iload_n 2, 1) := by decide +kernel
theorem dX12_flashes_42 : decode cX12_flashes 42 = .ok (.iaload, 1) := by decide +kernel
theorem dX12_flashes_43 : decode cX12_flashes 43 = .ok (.iconst 2, 1) := by decide +kernel
theorem dX12_flashes_44 : decode cX12_flashes 44 = .ok (.if_icmp .ne 8, 3) := by decide +kernel
theorem dX12_flashes_47 : decode cX12_flashes 47 = .ok (.aload_n 0, 1) := by decide +kernel
theorem dX12_flashes_48 : decode cX12_flashes 48 = .ok (.iload_n 2, 1) := by decide +kernel
theorem dX12_flashes_49 : decode cX12_flashes 49 = .ok (.invokevirtual 320, 3) := by decide +kernel
theorem dX12_flashes_52 : decode cX12_flashes 52 = .ok (.return_, 1) := by decide +kernel
theorem dX12_makes_0 : decode cX12_makes 0 = .ok (.iconst 0, 1) := by decide +kernel
theorem dX12_makes_1 : decode cX12_makes 1 = .ok (.istore_n 3, 1) := by decide +kernel
theorem dX12_makes_2 : decode cX12_makes 2 = .ok (.aload_n 0, 1) := by decide +kernel
theorem dX12_makes_3 : decode cX12_makes 3 = .ok (.getfield 95, 3) := by decide +kernel
theorem dX12_makes_6 : decode cX12_makes 6 = .ok (.iload_n 3, 1) := by decide +kernel
theorem dX12_makes_7 : decode cX12_makes 7 = .ok (.iaload, 1) := by decide +kernel
theorem dX12_makes_8 : decode cX12_makes 8 = .ok (.iconst (-1), 1) := by decide +kernel
theorem dX12_makes_9 : decode cX12_makes 9 = .ok (.if_icmp .eq 9, 3) := by decide +kernel
theorem dX12_makes_12 : decode cX12_makes 12 = .ok (.iinc 3 1, 3) := by decide +kernel
theorem dX12_makes_15 : decode cX12_makes 15 = .ok (.goto (-13), 3) := by decide +kernel
theorem dX12_makes_18 : decode cX12_makes 18 = .ok (.aload_n 0, 1) := by decide +kernel
theorem dX12_makes_19 : decode cX12_makes 19 = .ok (.getfield 95, 3) := by decide +kernel
theorem dX12_makes_22 : decode cX12_makes 22 = .ok (.iload_n 3, 1) := by decide +kernel
theorem dX12_makes_23 : decode cX12_makes 23 = .ok (.iconst 0, 1) := by decide +kernel
theorem dX12_makes_24 : decode cX12_makes 24 = .ok (.iastore, 1) := by decide +kernel
theorem dX12_makes_25 : decode cX12_makes 25 = .ok (.aload_n 0, 1) := by decide +kernel
theorem dX12_makes_26 : decode cX12_makes 26 = .ok (.getfield 98, 3) := by decide +kernel
theorem dX12_makes_29 : decode cX12_makes 29 = .ok (.iload_n 3, 1) := by decide +kernel
theorem dX12_makes_30 : decode cX12_makes 30 = .ok (.aload_n 0, 1) := by decide +kernel
theorem dX12_makes_31 : decode cX12_makes 31 = .ok (.dup, 1) := by decide +kernel
theorem dX12_makes_32 : decode cX12_makes 32 = .ok (.getfield 334, 3) := by decide +kernel
theorem dX12_makes_35 : decode cX12_makes 35 = .ok (.dup_x1, 1) := by decide +kernel
theorem dX12_makes_36 : decode cX12_makes 36 = .ok (.iconst 1, 1) := by decide +kernel
theorem dX12_makes_37 : decode cX12_makes 37 = .ok (.iadd, 1) := by decide +kernel
theorem dX12_makes_38 : decode cX12_makes 38 = .ok (.putfield 334, 3) := by decide +kernel
theorem dX12_makes_41 : decode cX12_makes 41 = .ok (.iastore, 1) := by decide +kernel
theorem dX12_makes_42 : decode cX12_makes 42 = .ok (.aload_n 0, 1) := by decide +kernel
theorem dX12_makes_43 : decode cX12_makes 43 = .ok (.getfield 101, 3) := by decide +kernel
theorem dX12_makes_46 : decode cX12_makes 46 = .ok (.iload_n 3, 1) := by decide +kernel
theorem dX12_makes_47 : decode cX12_makes 47 = .ok (.iload_n 1, 1) := by decide +kernel
theorem dX12_makes_48 : decode cX12_makes 48 = .ok (.iastore, 1) := by decide +kernel
theorem dX12_makes_49 : decode cX12_makes 49 = .ok (.aload_n 0, 1) := by decide +kernel
theorem dX12_makes_50 : decode cX12_makes 50 = .ok (.getfield 104, 3) := by decide +kernel
theorem dX12_makes_53 : decode cX12_makes 53 = .ok (.iload_n 3, 1) := by decide +kernel
theorem dX12_makes_54 : decode cX12_makes 54 = .ok (.iload_n 2, 1) := by decide +kernel
theorem dX12_makes_55 : decode cX12_makes 55 = .ok (.iastore, 1) := by decide +kernel
theorem dX12_makes_56 : decode cX12_makes 56 = .ok (.aload_n 0, 1) := by decide +kernel
theorem dX12_makes_57 : decode cX12_makes 57 = .ok (.getfield 107, 3) := by decide +kernel
theorem dX12_makes_60 : decode cX12_makes 60 = .ok (.iload_n 3, 1) := by decide +kernel
theorem dX12_makes_61 : decode cX12_makes 61 = .ok (.iconst (-1), 1) := by decide +kernel
theorem dX12_makes_62 : decode cX12_makes 62 = .ok (.iastore, 1) := by decide +kernel
theorem dX12_makes_63 : decode cX12_makes 63 = .ok (.aload_n 0, 1) := by decide +kernel
theorem dX12_makes_64 : decode cX12_makes 64 = .ok (.getfield 110, 3) := by decide +kernel
theorem dX12_makes_67 : decode cX12_makes 67 = .ok (.iload_n 3, 1) := by decide +kernel
theorem dX12_makes_68 : decode cX12_makes 68 = .ok (.iconst (-1), 1) := by decide +kernel
theorem dX12_makes_69 : decode cX12_makes 69 = .ok (.iastore, 1) := by decide +kernel
theorem dX12_makes_70 : decode cX12_makes 70 = .ok (.aload_n 0, 1) := by decide +kernel
theorem dX12_makes_71 : decode cX12_makes 71 = .ok (.getfield 116, 3) := by decide +kernel
theorem dX12_makes_74 : decode cX12_makes 74 = .ok (.iload_n 3, 1) := by decide +kernel
theorem dX12_makes_75 : decode cX12_makes 75 = .ok (.iconst 0, 1) := by decide +kernel
theorem dX12_makes_76 : decode cX12_makes 76 = .ok (.iastore, 1) := by decide +kernel
theorem dX12_makes_77 : decode cX12_makes 77 = .ok (.aload_n 0, 1) := by decide +kernel
theorem dX12_makes_78 : decode cX12_makes 78 = .ok (.getfield 125, 3) := by decide +kernel
theorem dX12_makes_81 : decode cX12_makes 81 = .ok (.iload_n 3, 1) := by decide +kernel
theorem dX12_makes_82 : decode cX12_makes 82 = .ok (.iconst (-1), 1) := by decide +kernel
theorem dX12_makes_83 : decode cX12_makes 83 = .ok (.iastore, 1) := by decide +kernel
theorem dX12_makes_84 : decode cX12_makes 84 = .ok (.aload_n 0, 1) := by decide +kernel
theorem dX12_makes_85 : decode cX12_makes 85 = .ok (.getfield 128, 3) := by decide +kernel
theorem dX12_makes_88 : decode cX12_makes 88 = .ok (.iload_n 3, 1) := by decide +kernel
theorem dX12_makes_89 : decode cX12_makes 89 = .ok (.iconst 0, 1) := by decide +kernel
theorem dX12_makes_90 : decode cX12_makes 90 = .ok (.iastore, 1) := by decide +kernel
theorem dX12_makes_91 : decode cX12_makes 91 = .ok (.aload_n 0, 1) := by decide +kernel
theorem dX12_makes_92 : decode cX12_makes 92 = .ok (.getfield 131, 3) := by decide +kernel
theorem dX12_makes_95 : decode cX12_makes 95 = .ok (.iload_n 3, 1) := by decide +kernel
theorem dX12_makes_96 : decode cX12_makes 96 = .ok (.aload_n 0, 1) := by decide +kernel
theorem dX12_makes_97 : decode cX12_makes 97 = .ok (.getfield 285, 3) := by decide +kernel
theorem dX12_makes_100 : decode cX12_makes 100 = .ok (.iastore, 1) := by decide +kernel
theorem dX12_makes_101 : decode cX12_makes 101 = .ok (.aload_n 0, 1) := by decide +kernel
theorem dX12_makes_102 : decode cX12_makes 102 = .ok (.getfield 137, 3) := by decide +kernel
theorem dX12_makes_105 : decode cX12_makes 105 = .ok (.iload_n 3, 1) := by decide +kernel
theorem dX12_makes_106 : decode cX12_makes 106 = .ok (.iconst 0, 1) := by decide +kernel
theorem dX12_makes_107 : decode cX12_makes 107 = .ok (.iastore, 1) := by decide +kernel
theorem dX12_makes_108 : decode cX12_makes 108 = .ok (.aload_n 0, 1) := by decide +kernel
theorem dX12_makes_109 : decode cX12_makes 109 = .ok (.getfield 140, 3) := by decide +kernel
theorem dX12_makes_112 : decode cX12_makes 112 = .ok (.iload_n 3, 1) := by decide +kernel
theorem dX12_makes_113 : decode cX12_makes 113 = .ok (.iconst 0, 1) := by decide +kernel
theorem dX12_makes_114 : decode cX12_makes 114 = .ok (.bastore, 1) := by decide +kernel
theorem dX12_makes_115 : decode cX12_makes 115 = .ok (.iload_n 3, 1) := by decide +kernel
theorem dX12_makes_116 : decode cX12_makes 116 = .ok (.ireturn, 1) := by decide +kernel
theorem dX12_isCircuit_0 : decode cX12_isCircuit 0 = .ok (.iload_n 0, 1) := by decide +kernel
theorem dX12_isCircuit_1 : decode cX12_isCircuit 1 = .ok (.bipush 100, 2) := by decide +kernel
theorem dX12_isCircuit_3 : decode cX12_isCircuit 3 = .ok (.if_icmp .lt 14, 3) := by decide +kernel
theorem dX12_isCircuit_6 : decode cX12_isCircuit 6 = .ok (.iload_n 0, 1) := by decide +kernel
theorem dX12_isCircuit_7 : decode cX12_isCircuit 7 = .ok (.sipush 200, 3) := by decide +kernel
theorem dX12_isCircuit_10 : decode cX12_isCircuit 10 = .ok (.if_icmp .ge 7, 3) := by decide +kernel
theorem dX12_isCircuit_13 : decode cX12_isCircuit 13 = .ok (.iconst 1, 1) := by decide +kernel
theorem dX12_isCircuit_14 : decode cX12_isCircuit 14 = .ok (.goto 4, 3) := by decide +kernel
theorem dX12_isCircuit_17 : decode cX12_isCircuit 17 = .ok (.iconst 0, 1) := by decide +kernel
theorem dX12_isCircuit_18 : decode cX12_isCircuit 18 = .ok (.ireturn, 1) := by decide +kernel
theorem dX12_isLineSide_0 : decode cX12_isLineSide 0 = .ok (.iload_n 0, 1) := by decide +kernel
theorem dX12_isLineSide_1 : decode cX12_isLineSide 1 = .ok (.ifCond .lt 13, 3) := by decide +kernel
theorem dX12_isLineSide_4 : decode cX12_isLineSide 4 = .ok (.iload_n 0, 1) := by decide +kernel
theorem dX12_isLineSide_5 : decode cX12_isLineSide 5 = .ok (.bipush 16, 2) := by decide +kernel
theorem dX12_isLineSide_7 : decode cX12_isLineSide 7 = .ok (.if_icmp .ge 7, 3) := by decide +kernel
theorem dX12_isLineSide_10 : decode cX12_isLineSide 10 = .ok (.iconst 1, 1) := by decide +kernel
theorem dX12_isLineSide_11 : decode cX12_isLineSide 11 = .ok (.goto 4, 3) := by decide +kernel
theorem dX12_isLineSide_14 : decode cX12_isLineSide 14 = .ok (.iconst 0, 1) := by decide +kernel
theorem dX12_isLineSide_15 : decode cX12_isLineSide 15 = .ok (.ireturn, 1) := by decide +kernel
theorem dX12_becomes_0 : decode cX12_becomes 0 = .ok (.aload_n 0, 1) := by decide +kernel
theorem dX12_becomes_1 : decode cX12_becomes 1 = .ok (.getfield 95, 3) := by decide +kernel
theorem dX12_becomes_4 : decode cX12_becomes 4 = .ok (.iload_n 1, 1) := by decide +kernel
theorem dX12_becomes_5 : decode cX12_becomes 5 = .ok (.iload_n 2, 1) := by decide +kernel
theorem dX12_becomes_6 : decode cX12_becomes 6 = .ok (.iastore, 1) := by decide +kernel
theorem dX12_becomes_7 : decode cX12_becomes 7 = .ok (.aload_n 0, 1) := by decide +kernel
theorem dX12_becomes_8 : decode cX12_becomes 8 = .ok (.getfield 131, 3) := by decide +kernel
theorem dX12_becomes_11 : decode cX12_becomes 11 = .ok (.iload_n 1, 1) := by decide +kernel
theorem dX12_becomes_12 : decode cX12_becomes 12 = .ok (.aload_n 0, 1) := by decide +kernel
theorem dX12_becomes_13 : decode cX12_becomes 13 = .ok (.getfield 285, 3) := by decide +kernel
theorem dX12_becomes_16 : decode cX12_becomes 16 = .ok (.iastore, 1) := by decide +kernel
theorem dX12_becomes_17 : decode cX12_becomes 17 = .ok (.return_, 1) := by decide +kernel
theorem dX12_places_0 : decode cX12_places 0 = .ok (.aload_n 0, 1) := by decide +kernel
theorem dX12_places_1 : decode cX12_places 1 = .ok (.getfield 125, 3) := by decide +kernel
theorem dX12_places_4 : decode cX12_places 4 = .ok (.iload_n 1, 1) := by decide +kernel
theorem dX12_places_5 : decode cX12_places 5 = .ok (.aload_n 0, 1) := by decide +kernel
theorem dX12_places_6 : decode cX12_places 6 = .ok (.getfield 125, 3) := by decide +kernel
theorem dX12_places_9 : decode cX12_places 9 = .ok (.iload_n 1, 1) := by decide +kernel
theorem dX12_places_10 : decode cX12_places 10 = .ok (.iaload, 1) := by decide +kernel
theorem dX12_places_11 : decode cX12_places 11 = .ok (.iconst (-1), 1) := by decide +kernel
theorem dX12_places_12 : decode cX12_places 12 = .ok (.if_icmp .ne 12, 3) := by decide +kernel
theorem dX12_places_15 : decode cX12_places 15 = .ok (.aload_n 0, 1) := by decide +kernel
theorem dX12_places_16 : decode cX12_places 16 = .ok (.getfield 31, 3) := by decide +kernel
theorem dX12_places_19 : decode cX12_places 19 = .ok (.iload_n 2, 1) := by decide +kernel
theorem dX12_places_20 : decode cX12_places 20 = .ok (.iaload, 1) := by decide +kernel
theorem dX12_places_21 : decode cX12_places 21 = .ok (.goto 9, 3) := by decide +kernel
theorem dX12_places_24 : decode cX12_places 24 = .ok (.aload_n 0, 1) := by decide +kernel
theorem dX12_places_25 : decode cX12_places 25 = .ok (.getfield 125, 3) := by decide +kernel
theorem dX12_places_28 : decode cX12_places 28 = .ok (.iload_n 1, 1) := by decide +kernel
theorem dX12_places_29 : decode cX12_places 29 = .ok (.iaload, 1) := by decide +kernel
theorem dX12_places_30 : decode cX12_places 30 = .ok (.iastore, 1) := by decide +kernel
theorem dX12_places_31 : decode cX12_places 31 = .ok (.aload_n 0, 1) := by decide +kernel
theorem dX12_places_32 : decode cX12_places 32 = .ok (.getfield 28, 3) := by decide +kernel
theorem dX12_places_35 : decode cX12_places 35 = .ok (.iload_n 2, 1) := by decide +kernel
theorem dX12_places_36 : decode cX12_places 36 = .ok (.iaload, 1) := by decide +kernel
theorem dX12_places_37 : decode cX12_places 37 = .ok (.istore_n 3, 1) := by decide +kernel
theorem dX12_places_38 : decode cX12_places 38 = .ok (.aload_n 0, 1) := by decide +kernel
theorem dX12_places_39 : decode cX12_places 39 = .ok (.getfield 25, 3) := by decide +kernel
theorem dX12_places_42 : decode cX12_places 42 = .ok (.iload_n 2, 1) := by decide +kernel
theorem dX12_places_43 : decode cX12_places 43 = .ok (.iaload, 1) := by decide +kernel
theorem dX12_places_44 : decode cX12_places 44 = .ok (.tableswitch 77 0 3 #[32, 41, 41, 68], 32) := by decide +kernel
theorem dX12_places_76 : decode cX12_places 76 = .ok (.aload_n 0, 1) := by decide +kernel
theorem dX12_places_77 : decode cX12_places 77 = .ok (.iload_n 1, 1) := by decide +kernel
theorem dX12_places_78 : decode cX12_places 78 = .ok (.iload_n 3, 1) := by decide +kernel
theorem dX12_places_79 : decode cX12_places 79 = .ok (.invokevirtual 337, 3) := by decide +kernel
theorem dX12_places_82 : decode cX12_places 82 = .ok (.goto 45, 3) := by decide +kernel
theorem dX12_places_85 : decode cX12_places 85 = .ok (.aload_n 0, 1) := by decide +kernel
theorem dX12_places_86 : decode cX12_places 86 = .ok (.getfield 119, 3) := by decide +kernel
theorem dX12_places_89 : decode cX12_places 89 = .ok (.iload_n 1, 1) := by decide +kernel
theorem dX12_places_90 : decode cX12_places 90 = .ok (.iload_n 3, 1) := by decide +kernel
theorem dX12_places_91 : decode cX12_places 91 = .ok (.iastore, 1) := by decide +kernel
theorem dX12_places_92 : decode cX12_places 92 = .ok (.aload_n 0, 1) := by decide +kernel
theorem dX12_places_93 : decode cX12_places 93 = .ok (.getfield 122, 3) := by decide +kernel
theorem dX12_places_96 : decode cX12_places 96 = .ok (.iload_n 1, 1) := by decide +kernel
theorem dX12_places_97 : decode cX12_places 97 = .ok (.aload_n 0, 1) := by decide +kernel
theorem dX12_places_98 : decode cX12_places 98 = .ok (.getfield 25, 3) := by decide +kernel
theorem dX12_places_101 : decode cX12_places 101 = .ok (.iload_n 2, 1) := by decide +kernel
theorem dX12_places_102 : decode cX12_places 102 = .ok (.iaload, 1) := by decide +kernel
theorem dX12_places_103 : decode cX12_places 103 = .ok (.iastore, 1) := by decide +kernel
theorem dX12_places_104 : decode cX12_places 104 = .ok (.aload_n 0, 1) := by decide +kernel
theorem dX12_places_105 : decode cX12_places 105 = .ok (.iload_n 1, 1) := by decide +kernel
theorem dX12_places_106 : decode cX12_places 106 = .ok (.invokevirtual 340, 3) := by decide +kernel
theorem dX12_places_109 : decode cX12_places 109 = .ok (.goto 18, 3) := by decide +kernel
theorem dX12_places_112 : decode cX12_places 112 = .ok (.aload_n 0, 1) := by decide +kernel
theorem dX12_places_113 : decode cX12_places 113 = .ok (.iload_n 1, 1) := by decide +kernel
theorem dX12_places_114 : decode cX12_places 114 = .ok (.iload_n 3, 1) := by decide +kernel
theorem dX12_places_115 : decode cX12_places 115 = .ok (.invokevirtual 343, 3) := by decide +kernel
theorem dX12_places_118 : decode cX12_places 118 = .ok (.goto 9, 3) := by decide +kernel
theorem dX12_places_121 : decode cX12_places 121 = .ok (.aload_n 0, 1) := by decide +kernel
theorem dX12_places_122 : decode cX12_places 122 = .ok (.iload_n 1, 1) := by decide +kernel
theorem dX12_places_123 : decode cX12_places 123 = .ok (.iload_n 3, 1) := by decide +kernel
theorem dX12_places_124 : decode cX12_places 124 = .ok (.invokevirtual 346, 3) := by decide +kernel
theorem dX12_places_127 : decode cX12_places 127 = .ok (.return_, 1) := by decide +kernel
theorem dX12_toFar_0 : decode cX12_toFar 0 = .ok (.aload_n 0, 1) := by decide +kernel
theorem dX12_toFar_1 : decode cX12_toFar 1 = .ok (.getfield 101, 3) := by decide +kernel
theorem dX12_toFar_4 : decode cX12_toFar 4 = .ok (.iload_n 1, 1) := by decide +kernel
theorem dX12_toFar_5 : decode cX12_toFar 5 = .ok (.iaload, 1) := by decide +kernel
theorem dX12_toFar_6 : decode cX12_toFar 6 = .ok (.istore_n 2, 1) := by decide +kernel
theorem dX12_toFar_7 : decode cX12_toFar 7 = .ok (.iconst 0, 1) := by decide +kernel
theorem dX12_toFar_8 : decode cX12_toFar 8 = .ok (.istore_n 3, 1) := by decide +kernel
theorem dX12_toFar_9 : decode cX12_toFar 9 = .ok (.iconst (-1), 1) := by decide +kernel
theorem dX12_toFar_10 : decode cX12_toFar 10 = .ok (.istore 4, 2) := by decide +kernel
theorem dX12_toFar_12 : decode cX12_toFar 12 = .ok (.iconst 0, 1) := by decide +kernel
theorem dX12_toFar_13 : decode cX12_toFar 13 = .ok (.istore 5, 2) := by decide +kernel
theorem dX12_toFar_15 : decode cX12_toFar 15 = .ok (.iload 5, 2) := by decide +kernel
theorem dX12_toFar_17 : decode cX12_toFar 17 = .ok (.aload_n 0, 1) := by decide +kernel
theorem dX12_toFar_18 : decode cX12_toFar 18 = .ok (.getfield 255, 3) := by decide +kernel
theorem dX12_toFar_21 : decode cX12_toFar 21 = .ok (.if_icmp .ge 49, 3) := by decide +kernel
theorem dX12_toFar_24 : decode cX12_toFar 24 = .ok (.aload_n 0, 1) := by decide +kernel
theorem dX12_toFar_25 : decode cX12_toFar 25 = .ok (.getfield 158, 3) := by decide +kernel
theorem dX12_toFar_28 : decode cX12_toFar 28 = .ok (.bipush 16, 2) := by decide +kernel
theorem dX12_toFar_30 : decode cX12_toFar 30 = .ok (.iload_n 2, 1) := by decide +kernel
theorem dX12_toFar_31 : decode cX12_toFar 31 = .ok (.imul, 1) := by decide +kernel
theorem dX12_toFar_32 : decode cX12_toFar 32 = .ok (.iload 5, 2) := by decide +kernel
theorem dX12_toFar_34 : decode cX12_toFar 34 = .ok (.iadd, 1) := by decide +kernel
theorem dX12_toFar_35 : decode cX12_toFar 35 = .ok (.iaload, 1) := by decide +kernel
theorem dX12_toFar_36 : decode cX12_toFar 36 = .ok (.ifCond .eq 6, 3) := by decide +kernel
theorem dX12_toFar_39 : decode cX12_toFar 39 = .ok (.goto 25, 3) := by decide +kernel
theorem dX12_toFar_42 : decode cX12_toFar 42 = .ok (.iinc 3 1, 3) := by decide +kernel
theorem dX12_toFar_45 : decode cX12_toFar 45 = .ok (.iload_n 2, 1) := by decide +kernel
theorem dX12_toFar_46 : decode cX12_toFar 46 = .ok (.ifCond .ne 14, 3) := by decide +kernel
theorem dX12_toFar_49 : decode cX12_toFar 49 = .ok (.iload 4, 2) := by decide +kernel
theorem dX12_toFar_51 : decode cX12_toFar 51 = .ok (.iconst (-1), 1) := by decide +kernel
theorem dX12_toFar_52 : decode cX12_toFar 52 = .ok (.if_icmp .eq 8, 3) := by decide +kernel
theorem dX12_toFar_55 : decode cX12_toFar 55 = .ok (.iload 4, 2) := by decide +kernel
theorem dX12_toFar_57 : decode cX12_toFar 57 = .ok (.goto 5, 3) := by decide +kernel
theorem dX12_toFar_60 : decode cX12_toFar 60 = .ok (.iload 5, 2) := by decide +kernel
theorem dX12_toFar_62 : decode cX12_toFar 62 = .ok (.istore 4, 2) := by decide +kernel
theorem dX12_toFar_64 : decode cX12_toFar 64 = .ok (.iinc 5 1, 3) := by decide +kernel
theorem dX12_toFar_67 : decode cX12_toFar 67 = .ok (.goto (-52), 3) := by decide +kernel
theorem dX12_toFar_70 : decode cX12_toFar 70 = .ok (.aload_n 0, 1) := by decide +kernel
theorem dX12_toFar_71 : decode cX12_toFar 71 = .ok (.getfield 122, 3) := by decide +kernel
theorem dX12_toFar_74 : decode cX12_toFar 74 = .ok (.iload_n 1, 1) := by decide +kernel
theorem dX12_toFar_75 : decode cX12_toFar 75 = .ok (.iaload, 1) := by decide +kernel
theorem dX12_toFar_76 : decode cX12_toFar 76 = .ok (.iconst 1, 1) := by decide +kernel
theorem dX12_toFar_77 : decode cX12_toFar 77 = .ok (.if_icmp .ne 44, 3) := by decide +kernel
theorem dX12_toFar_80 : decode cX12_toFar 80 = .ok (.aload_n 0, 1) := by decide +kernel
theorem dX12_toFar_81 : decode cX12_toFar 81 = .ok (.getfield 104, 3) := by decide +kernel
theorem dX12_toFar_84 : decode cX12_toFar 84 = .ok (.iload_n 1, 1) := by decide +kernel
theorem dX12_toFar_85 : decode cX12_toFar 85 = .ok (.iaload, 1) := by decide +kernel
theorem dX12_toFar_86 : decode cX12_toFar 86 = .ok (.invokestatic 349, 3) := by decide +kernel
theorem dX12_toFar_89 : decode cX12_toFar 89 = .ok (.ifCond .eq 32, 3) := by decide +kernel
theorem dX12_toFar_92 : decode cX12_toFar 92 = .ok (.aload_n 0, 1) := by decide +kernel
theorem dX12_toFar_93 : decode cX12_toFar 93 = .ok (.getfield 80, 3) := by decide +kernel
theorem dX12_toFar_96 : decode cX12_toFar 96 = .ok (.iconst 3, 1) := by decide +kernel
theorem dX12_toFar_97 : decode cX12_toFar 97 = .ok (.aload_n 0, 1) := by decide +kernel
theorem dX12_toFar_98 : decode cX12_toFar 98 = .ok (.getfield 104, 3) := by decide +kernel
theorem dX12_toFar_101 : decode cX12_toFar 101 = .ok (.iload_n 1, 1) := by decide +kernel
theorem dX12_toFar_102 : decode cX12_toFar 102 = .ok (.iaload, 1) := by decide +kernel
theorem dX12_toFar_103 : decode cX12_toFar 103 = .ok (.imul, 1) := by decide +kernel
theorem dX12_toFar_104 : decode cX12_toFar 104 = .ok (.iconst 1, 1) := by decide +kernel
theorem dX12_toFar_105 : decode cX12_toFar 105 = .ok (.iadd, 1) := by decide +kernel
theorem dX12_toFar_106 : decode cX12_toFar 106 = .ok (.baload, 1) := by decide +kernel
theorem dX12_toFar_107 : decode cX12_toFar 107 = .ok (.ifCond .eq 14, 3) := by decide +kernel
theorem dX12_toFar_110 : decode cX12_toFar 110 = .ok (.aload_n 0, 1) := by decide +kernel
theorem dX12_toFar_111 : decode cX12_toFar 111 = .ok (.iload_n 1, 1) := by decide +kernel
theorem dX12_toFar_112 : decode cX12_toFar 112 = .ok (.bipush 8, 2) := by decide +kernel
theorem dX12_toFar_114 : decode cX12_toFar 114 = .ok (.iconst (-1), 1) := by decide +kernel
theorem dX12_toFar_115 : decode cX12_toFar 115 = .ok (.invokevirtual 323, 3) := by decide +kernel
theorem dX12_toFar_118 : decode cX12_toFar 118 = .ok (.goto 199, 3) := by decide +kernel
theorem dX12_toFar_121 : decode cX12_toFar 121 = .ok (.aload_n 0, 1) := by decide +kernel
theorem dX12_toFar_122 : decode cX12_toFar 122 = .ok (.getfield 122, 3) := by decide +kernel
theorem dX12_toFar_125 : decode cX12_toFar 125 = .ok (.iload_n 1, 1) := by decide +kernel
theorem dX12_toFar_126 : decode cX12_toFar 126 = .ok (.iaload, 1) := by decide +kernel
theorem dX12_toFar_127 : decode cX12_toFar 127 = .ok (.iconst 1, 1) := by decide +kernel
theorem dX12_toFar_128 : decode cX12_toFar 128 = .ok (.if_icmp .ne 14, 3) := by decide +kernel
theorem dX12_toFar_131 : decode cX12_toFar 131 = .ok (.iload_n 3, 1) := by decide +kernel
theorem dX12_toFar_132 : decode cX12_toFar 132 = .ok (.aload_n 0, 1) := by decide +kernel
theorem dX12_toFar_133 : decode cX12_toFar 133 = .ok (.getfield 259, 3) := by decide +kernel
theorem dX12_toFar_136 : decode cX12_toFar 136 = .ok (.if_icmp .gt 20, 3) := by decide +kernel
theorem dX12_toFar_139 : decode cX12_toFar 139 = .ok (.goto 7, 3) := by decide +kernel
theorem dX12_toFar_142 : decode cX12_toFar 142 = .ok (.iload_n 3, 1) := by decide +kernel
theorem dX12_toFar_143 : decode cX12_toFar 143 = .ok (.ifCond .ne 13, 3) := by decide +kernel
theorem dX12_toFar_146 : decode cX12_toFar 146 = .ok (.aload_n 0, 1) := by decide +kernel
theorem dX12_toFar_147 : decode cX12_toFar 147 = .ok (.iload_n 1, 1) := by decide +kernel
theorem dX12_toFar_148 : decode cX12_toFar 148 = .ok (.iconst 3, 1) := by decide +kernel
theorem dX12_toFar_149 : decode cX12_toFar 149 = .ok (.iconst (-1), 1) := by decide +kernel
theorem dX12_toFar_150 : decode cX12_toFar 150 = .ok (.invokevirtual 323, 3) := by decide +kernel
theorem dX12_toFar_153 : decode cX12_toFar 153 = .ok (.goto 164, 3) := by decide +kernel
theorem dX12_toFar_156 : decode cX12_toFar 156 = .ok (.aload_n 0, 1) := by decide +kernel
theorem dX12_toFar_157 : decode cX12_toFar 157 = .ok (.getfield 107, 3) := by decide +kernel
theorem dX12_toFar_160 : decode cX12_toFar 160 = .ok (.iload_n 1, 1) := by decide +kernel
theorem dX12_toFar_161 : decode cX12_toFar 161 = .ok (.bipush 100, 2) := by decide +kernel
theorem dX12_toFar_163 : decode cX12_toFar 163 = .ok (.iload 4, 2) := by decide +kernel
theorem dX12_toFar_165 : decode cX12_toFar 165 = .ok (.iadd, 1) := by decide +kernel
theorem dX12_toFar_166 : decode cX12_toFar 166 = .ok (.iastore, 1) := by decide +kernel
theorem dX12_toFar_167 : decode cX12_toFar 167 = .ok (.aload_n 0, 1) := by decide +kernel
theorem dX12_toFar_168 : decode cX12_toFar 168 = .ok (.getfield 158, 3) := by decide +kernel
theorem dX12_toFar_171 : decode cX12_toFar 171 = .ok (.bipush 16, 2) := by decide +kernel
theorem dX12_toFar_173 : decode cX12_toFar 173 = .ok (.iload_n 2, 1) := by decide +kernel
theorem dX12_toFar_174 : decode cX12_toFar 174 = .ok (.imul, 1) := by decide +kernel
theorem dX12_toFar_175 : decode cX12_toFar 175 = .ok (.iload 4, 2) := by decide +kernel
theorem dX12_toFar_177 : decode cX12_toFar 177 = .ok (.iadd, 1) := by decide +kernel
theorem dX12_toFar_178 : decode cX12_toFar 178 = .ok (.iconst 1, 1) := by decide +kernel
theorem dX12_toFar_179 : decode cX12_toFar 179 = .ok (.iastore, 1) := by decide +kernel
theorem dX12_toFar_180 : decode cX12_toFar 180 = .ok (.aload_n 0, 1) := by decide +kernel
theorem dX12_toFar_181 : decode cX12_toFar 181 = .ok (.getfield 161, 3) := by decide +kernel
theorem dX12_toFar_184 : decode cX12_toFar 184 = .ok (.bipush 16, 2) := by decide +kernel
theorem dX12_toFar_186 : decode cX12_toFar 186 = .ok (.iload_n 2, 1) := by decide +kernel
theorem dX12_toFar_187 : decode cX12_toFar 187 = .ok (.imul, 1) := by decide +kernel
theorem dX12_toFar_188 : decode cX12_toFar 188 = .ok (.iload 4, 2) := by decide +kernel
theorem dX12_toFar_190 : decode cX12_toFar 190 = .ok (.iadd, 1) := by decide +kernel
theorem dX12_toFar_191 : decode cX12_toFar 191 = .ok (.iload_n 1, 1) := by decide +kernel
theorem dX12_toFar_192 : decode cX12_toFar 192 = .ok (.iastore, 1) := by decide +kernel
theorem dX12_toFar_193 : decode cX12_toFar 193 = .ok (.aload_n 0, 1) := by decide +kernel
theorem dX12_toFar_194 : decode cX12_toFar 194 = .ok (.getfield 116, 3) := by decide +kernel
theorem dX12_toFar_197 : decode cX12_toFar 197 = .ok (.iload_n 1, 1) := by decide +kernel
theorem dX12_toFar_198 : decode cX12_toFar 198 = .ok (.iaload, 1) := by decide +kernel
theorem dX12_toFar_199 : decode cX12_toFar 199 = .ok (.aload_n 0, 1) := by decide +kernel
theorem dX12_toFar_200 : decode cX12_toFar 200 = .ok (.getfield 119, 3) := by decide +kernel
theorem dX12_toFar_203 : decode cX12_toFar 203 = .ok (.iload_n 1, 1) := by decide +kernel
theorem dX12_toFar_204 : decode cX12_toFar 204 = .ok (.iaload, 1) := by decide +kernel
theorem dX12_toFar_205 : decode cX12_toFar 205 = .ok (.isub, 1) := by decide +kernel
theorem dX12_toFar_206 : decode cX12_toFar 206 = .ok (.istore 5, 2) := by decide +kernel
theorem dX12_toFar_208 : decode cX12_toFar 208 = .ok (.aload_n 0, 1) := by decide +kernel
theorem dX12_toFar_209 : decode cX12_toFar 209 = .ok (.iload 4, 2) := by decide +kernel
theorem dX12_toFar_211 : decode cX12_toFar 211 = .ok (.iconst 1, 1) := by decide +kernel
theorem dX12_toFar_212 : decode cX12_toFar 212 = .ok (.invokevirtual 352, 3) := by decide +kernel
theorem dX12_toFar_215 : decode cX12_toFar 215 = .ok (.aload_n 0, 1) := by decide +kernel
theorem dX12_toFar_216 : decode cX12_toFar 216 = .ok (.getfield 164, 3) := by decide +kernel
theorem dX12_toFar_219 : decode cX12_toFar 219 = .ok (.aload_n 0, 1) := by decide +kernel
theorem dX12_toFar_220 : decode cX12_toFar 220 = .ok (.dup, 1) := by decide +kernel
theorem dX12_toFar_221 : decode cX12_toFar 221 = .ok (.getfield 355, 3) := by decide +kernel
theorem dX12_toFar_224 : decode cX12_toFar 224 = .ok (.dup_x1, 1) := by decide +kernel
theorem dX12_toFar_225 : decode cX12_toFar 225 = .ok (.iconst 1, 1) := by decide +kernel
theorem dX12_toFar_226 : decode cX12_toFar 226 = .ok (.iadd, 1) := by decide +kernel
theorem dX12_toFar_227 : decode cX12_toFar 227 = .ok (.putfield 355, 3) := by decide +kernel
theorem dX12_toFar_230 : decode cX12_toFar 230 = .ok (.aload_n 0, 1) := by decide +kernel
theorem dX12_toFar_231 : decode cX12_toFar 231 = .ok (.getfield 128, 3) := by decide +kernel
theorem dX12_toFar_234 : decode cX12_toFar 234 = .ok (.iload_n 1, 1) := by decide +kernel
theorem dX12_toFar_235 : decode cX12_toFar 235 = .ok (.iaload, 1) := by decide +kernel
theorem dX12_toFar_236 : decode cX12_toFar 236 = .ok (.iastore, 1) := by decide +kernel
theorem dX12_toFar_237 : decode cX12_toFar 237 = .ok (.aload_n 0, 1) := by decide +kernel
theorem dX12_toFar_238 : decode cX12_toFar 238 = .ok (.getfield 164, 3) := by decide +kernel
theorem dX12_toFar_241 : decode cX12_toFar 241 = .ok (.aload_n 0, 1) := by decide +kernel
theorem dX12_toFar_242 : decode cX12_toFar 242 = .ok (.dup, 1) := by decide +kernel
theorem dX12_toFar_243 : decode cX12_toFar 243 = .ok (.getfield 355, 3) := by decide +kernel
theorem dX12_toFar_246 : decode cX12_toFar 246 = .ok (.dup_x1, 1) := by decide +kernel
theorem dX12_toFar_247 : decode cX12_toFar 247 = .ok (.iconst 1, 1) := by decide +kernel
theorem dX12_toFar_248 : decode cX12_toFar 248 = .ok (.iadd, 1) := by decide +kernel
theorem dX12_toFar_249 : decode cX12_toFar 249 = .ok (.putfield 355, 3) := by decide +kernel
theorem dX12_toFar_252 : decode cX12_toFar 252 = .ok (.iload 5, 2) := by decide +kernel
theorem dX12_toFar_254 : decode cX12_toFar 254 = .ok (.iastore, 1) := by decide +kernel
theorem dX12_toFar_255 : decode cX12_toFar 255 = .ok (.iconst 0, 1) := by decide +kernel
theorem dX12_toFar_256 : decode cX12_toFar 256 = .ok (.istore 6, 2) := by decide +kernel
theorem dX12_toFar_258 : decode cX12_toFar 258 = .ok (.iload 6, 2) := by decide +kernel
theorem dX12_toFar_260 : decode cX12_toFar 260 = .ok (.iload 5, 2) := by decide +kernel
theorem dX12_toFar_262 : decode cX12_toFar 262 = .ok (.if_icmp .ge 44, 3) := by decide +kernel
theorem dX12_toFar_265 : decode cX12_toFar 265 = .ok (.aload_n 0, 1) := by decide +kernel
theorem dX12_toFar_266 : decode cX12_toFar 266 = .ok (.getfield 164, 3) := by decide +kernel
theorem dX12_toFar_269 : decode cX12_toFar 269 = .ok (.aload_n 0, 1) := by decide +kernel
theorem dX12_toFar_270 : decode cX12_toFar 270 = .ok (.dup, 1) := by decide +kernel
theorem dX12_toFar_271 : decode cX12_toFar 271 = .ok (.getfield 355, 3) := by decide +kernel
theorem dX12_toFar_274 : decode cX12_toFar 274 = .ok (.dup_x1, 1) := by decide +kernel
theorem dX12_toFar_275 : decode cX12_toFar 275 = .ok (.iconst 1, 1) := by decide +kernel
theorem dX12_toFar_276 : decode cX12_toFar 276 = .ok (.iadd, 1) := by decide +kernel
theorem dX12_toFar_277 : decode cX12_toFar 277 = .ok (.putfield 355, 3) := by decide +kernel
theorem dX12_toFar_280 : decode cX12_toFar 280 = .ok (.aload_n 0, 1) := by decide +kernel
theorem dX12_toFar_281 : decode cX12_toFar 281 = .ok (.getfield 113, 3) := by decide +kernel
theorem dX12_toFar_284 : decode cX12_toFar 284 = .ok (.bipush 12, 2) := by decide +kernel
theorem dX12_toFar_286 : decode cX12_toFar 286 = .ok (.iload_n 1, 1) := by decide +kernel
theorem dX12_toFar_287 : decode cX12_toFar 287 = .ok (.imul, 1) := by decide +kernel
theorem dX12_toFar_288 : decode cX12_toFar 288 = .ok (.aload_n 0, 1) := by decide +kernel
theorem dX12_toFar_289 : decode cX12_toFar 289 = .ok (.getfield 119, 3) := by decide +kernel
theorem dX12_toFar_292 : decode cX12_toFar 292 = .ok (.iload_n 1, 1) := by decide +kernel
theorem dX12_toFar_293 : decode cX12_toFar 293 = .ok (.iaload, 1) := by decide +kernel
theorem dX12_toFar_294 : decode cX12_toFar 294 = .ok (.iadd, 1) := by decide +kernel
theorem dX12_toFar_295 : decode cX12_toFar 295 = .ok (.iload 6, 2) := by decide +kernel
theorem dX12_toFar_297 : decode cX12_toFar 297 = .ok (.iadd, 1) := by decide +kernel
theorem dX12_toFar_298 : decode cX12_toFar 298 = .ok (.iaload, 1) := by decide +kernel
theorem dX12_toFar_299 : decode cX12_toFar 299 = .ok (.iastore, 1) := by decide +kernel
theorem dX12_toFar_300 : decode cX12_toFar 300 = .ok (.iinc 6 1, 3) := by decide +kernel
theorem dX12_toFar_303 : decode cX12_toFar 303 = .ok (.goto (-45), 3) := by decide +kernel
theorem dX12_toFar_306 : decode cX12_toFar 306 = .ok (.aload_n 0, 1) := by decide +kernel
theorem dX12_toFar_307 : decode cX12_toFar 307 = .ok (.iload_n 2, 1) := by decide +kernel
theorem dX12_toFar_308 : decode cX12_toFar 308 = .ok (.invokevirtual 358, 3) := by decide +kernel
theorem dX12_toFar_311 : decode cX12_toFar 311 = .ok (.aload_n 0, 1) := by decide +kernel
theorem dX12_toFar_312 : decode cX12_toFar 312 = .ok (.iload_n 1, 1) := by decide +kernel
theorem dX12_toFar_313 : decode cX12_toFar 313 = .ok (.iconst 1, 1) := by decide +kernel
theorem dX12_toFar_314 : decode cX12_toFar 314 = .ok (.invokevirtual 361, 3) := by decide +kernel
theorem dX12_toFar_317 : decode cX12_toFar 317 = .ok (.return_, 1) := by decide +kernel
theorem dX12_rings_0 : decode cX12_rings 0 = .ok (.aload_n 0, 1) := by decide +kernel
theorem dX12_rings_1 : decode cX12_rings 1 = .ok (.getfield 107, 3) := by decide +kernel
theorem dX12_rings_4 : decode cX12_rings 4 = .ok (.iload_n 1, 1) := by decide +kernel
theorem dX12_rings_5 : decode cX12_rings 5 = .ok (.iload_n 2, 1) := by decide +kernel
theorem dX12_rings_6 : decode cX12_rings 6 = .ok (.iastore, 1) := by decide +kernel
theorem dX12_rings_7 : decode cX12_rings 7 = .ok (.aload_n 0, 1) := by decide +kernel
theorem dX12_rings_8 : decode cX12_rings 8 = .ok (.getfield 110, 3) := by decide +kernel
theorem dX12_rings_11 : decode cX12_rings 11 = .ok (.iload_n 1, 1) := by decide +kernel
theorem dX12_rings_12 : decode cX12_rings 12 = .ok (.iload_n 3, 1) := by decide +kernel
theorem dX12_rings_13 : decode cX12_rings 13 = .ok (.iastore, 1) := by decide +kernel
theorem dX12_rings_14 : decode cX12_rings 14 = .ok (.aload_n 0, 1) := by decide +kernel
theorem dX12_rings_15 : decode cX12_rings 15 = .ok (.iload_n 1, 1) := by decide +kernel
theorem dX12_rings_16 : decode cX12_rings 16 = .ok (.iconst 2, 1) := by decide +kernel
theorem dX12_rings_17 : decode cX12_rings 17 = .ok (.invokevirtual 361, 3) := by decide +kernel
theorem dX12_rings_20 : decode cX12_rings 20 = .ok (.aload_n 0, 1) := by decide +kernel
theorem dX12_rings_21 : decode cX12_rings 21 = .ok (.iload_n 1, 1) := by decide +kernel
theorem dX12_rings_22 : decode cX12_rings 22 = .ok (.invokevirtual 364, 3) := by decide +kernel
theorem dX12_rings_25 : decode cX12_rings 25 = .ok (.return_, 1) := by decide +kernel
theorem dX12_toLine_0 : decode cX12_toLine 0 = .ok (.aload_n 0, 1) := by decide +kernel
theorem dX12_toLine_1 : decode cX12_toLine 1 = .ok (.getfield 80, 3) := by decide +kernel
theorem dX12_toLine_4 : decode cX12_toLine 4 = .ok (.iconst 3, 1) := by decide +kernel
theorem dX12_toLine_5 : decode cX12_toLine 5 = .ok (.iload_n 2, 1) := by decide +kernel
theorem dX12_toLine_6 : decode cX12_toLine 6 = .ok (.imul, 1) := by decide +kernel
theorem dX12_toLine_7 : decode cX12_toLine 7 = .ok (.iconst 2, 1) := by decide +kernel
theorem dX12_toLine_8 : decode cX12_toLine 8 = .ok (.iadd, 1) := by decide +kernel
theorem dX12_toLine_9 : decode cX12_toLine 9 = .ok (.baload, 1) := by decide +kernel
theorem dX12_toLine_10 : decode cX12_toLine 10 = .ok (.ifCond .eq 42, 3) := by decide +kernel
theorem dX12_toLine_13 : decode cX12_toLine 13 = .ok (.aload_n 0, 1) := by decide +kernel
theorem dX12_toLine_14 : decode cX12_toLine 14 = .ok (.getfield 56, 3) := by decide +kernel
theorem dX12_toLine_17 : decode cX12_toLine 17 = .ok (.iload_n 2, 1) := by decide +kernel
theorem dX12_toLine_18 : decode cX12_toLine 18 = .ok (.iaload, 1) := by decide +kernel
theorem dX12_toLine_19 : decode cX12_toLine 19 = .ok (.iconst (-1), 1) := by decide +kernel
theorem dX12_toLine_20 : decode cX12_toLine 20 = .ok (.if_icmp .eq 32, 3) := by decide +kernel
theorem dX12_toLine_23 : decode cX12_toLine 23 = .ok (.aload_n 0, 1) := by decide +kernel
theorem dX12_toLine_24 : decode cX12_toLine 24 = .ok (.getfield 95, 3) := by decide +kernel
theorem dX12_toLine_27 : decode cX12_toLine 27 = .ok (.aload_n 0, 1) := by decide +kernel
theorem dX12_toLine_28 : decode cX12_toLine 28 = .ok (.getfield 56, 3) := by decide +kernel
theorem dX12_toLine_31 : decode cX12_toLine 31 = .ok (.iload_n 2, 1) := by decide +kernel
theorem dX12_toLine_32 : decode cX12_toLine 32 = .ok (.iaload, 1) := by decide +kernel
theorem dX12_toLine_33 : decode cX12_toLine 33 = .ok (.iaload, 1) := by decide +kernel
theorem dX12_toLine_34 : decode cX12_toLine 34 = .ok (.iconst 3, 1) := by decide +kernel
theorem dX12_toLine_35 : decode cX12_toLine 35 = .ok (.if_icmp .ne 17, 3) := by decide +kernel
theorem dX12_toLine_38 : decode cX12_toLine 38 = .ok (.aload_n 0, 1) := by decide +kernel
theorem dX12_toLine_39 : decode cX12_toLine 39 = .ok (.getfield 59, 3) := by decide +kernel
theorem dX12_toLine_42 : decode cX12_toLine 42 = .ok (.iload_n 2, 1) := by decide +kernel
theorem dX12_toLine_43 : decode cX12_toLine 43 = .ok (.iaload, 1) := by decide +kernel
theorem dX12_toLine_44 : decode cX12_toLine 44 = .ok (.iconst (-1), 1) := by decide +kernel
theorem dX12_toLine_45 : decode cX12_toLine 45 = .ok (.if_icmp .ne 7, 3) := by decide +kernel
theorem dX12_toLine_48 : decode cX12_toLine 48 = .ok (.iconst 1, 1) := by decide +kernel
theorem dX12_toLine_49 : decode cX12_toLine 49 = .ok (.goto 4, 3) := by decide +kernel
theorem dX12_toLine_52 : decode cX12_toLine 52 = .ok (.iconst 0, 1) := by decide +kernel
theorem dX12_toLine_53 : decode cX12_toLine 53 = .ok (.istore_n 3, 1) := by decide +kernel
theorem dX12_toLine_54 : decode cX12_toLine 54 = .ok (.aload_n 0, 1) := by decide +kernel
theorem dX12_toLine_55 : decode cX12_toLine 55 = .ok (.getfield 80, 3) := by decide +kernel
theorem dX12_toLine_58 : decode cX12_toLine 58 = .ok (.iconst 3, 1) := by decide +kernel
theorem dX12_toLine_59 : decode cX12_toLine 59 = .ok (.iload_n 2, 1) := by decide +kernel
theorem dX12_toLine_60 : decode cX12_toLine 60 = .ok (.imul, 1) := by decide +kernel
theorem dX12_toLine_61 : decode cX12_toLine 61 = .ok (.baload, 1) := by decide +kernel
theorem dX12_toLine_62 : decode cX12_toLine 62 = .ok (.ifCond .eq 14, 3) := by decide +kernel
theorem dX12_toLine_65 : decode cX12_toLine 65 = .ok (.aload_n 0, 1) := by decide +kernel
theorem dX12_toLine_66 : decode cX12_toLine 66 = .ok (.iload_n 1, 1) := by decide +kernel
theorem dX12_toLine_67 : decode cX12_toLine 67 = .ok (.bipush 8, 2) := by decide +kernel
theorem dX12_toLine_69 : decode cX12_toLine 69 = .ok (.iconst (-1), 1) := by decide +kernel
theorem dX12_toLine_70 : decode cX12_toLine 70 = .ok (.invokevirtual 323, 3) := by decide +kernel
theorem dX12_toLine_73 : decode cX12_toLine 73 = .ok (.goto 104, 3) := by decide +kernel
theorem dX12_toLine_76 : decode cX12_toLine 76 = .ok (.aload_n 0, 1) := by decide +kernel
theorem dX12_toLine_77 : decode cX12_toLine 77 = .ok (.getfield 86, 3) := by decide +kernel
theorem dX12_toLine_80 : decode cX12_toLine 80 = .ok (.iconst 3, 1) := by decide +kernel
theorem dX12_toLine_81 : decode cX12_toLine 81 = .ok (.iload_n 2, 1) := by decide +kernel
theorem dX12_toLine_82 : decode cX12_toLine 82 = .ok (.imul, 1) := by decide +kernel
theorem dX12_toLine_83 : decode cX12_toLine 83 = .ok (.iaload, 1) := by decide +kernel
theorem dX12_toLine_84 : decode cX12_toLine 84 = .ok (.ifCond .le 14, 3) := by decide +kernel
theorem dX12_toLine_87 : decode cX12_toLine 87 = .ok (.aload_n 0, 1) := by decide +kernel
theorem dX12_toLine_88 : decode cX12_toLine 88 = .ok (.iload_n 1, 1) := by decide +kernel
theorem dX12_toLine_89 : decode cX12_toLine 89 = .ok (.iconst 3, 1) := by decide +kernel
theorem dX12_toLine_90 : decode cX12_toLine 90 = .ok (.iload_n 2, 1) := by decide +kernel
theorem dX12_toLine_91 : decode cX12_toLine 91 = .ok (.imul, 1) := by decide +kernel
theorem dX12_toLine_92 : decode cX12_toLine 92 = .ok (.invokevirtual 367, 3) := by decide +kernel
theorem dX12_toLine_95 : decode cX12_toLine 95 = .ok (.goto 82, 3) := by decide +kernel
theorem dX12_toLine_98 : decode cX12_toLine 98 = .ok (.aload_n 0, 1) := by decide +kernel
theorem dX12_toLine_99 : decode cX12_toLine 99 = .ok (.iload_n 2, 1) := by decide +kernel
theorem dX12_toLine_100 : decode cX12_toLine 100 = .ok (.invokevirtual 370, 3) := by decide +kernel
theorem dX12_toLine_103 : decode cX12_toLine 103 = .ok (.ifCond .eq 20, 3) := by decide +kernel
theorem dX12_toLine_106 : decode cX12_toLine 106 = .ok (.aload_n 0, 1) := by decide +kernel
theorem dX12_toLine_107 : decode cX12_toLine 107 = .ok (.getfield 62, 3) := by decide +kernel
theorem dX12_toLine_110 : decode cX12_toLine 110 = .ok (.iload_n 2, 1) := by decide +kernel
theorem dX12_toLine_111 : decode cX12_toLine 111 = .ok (.iload_n 1, 1) := by decide +kernel
theorem dX12_toLine_112 : decode cX12_toLine 112 = .ok (.iastore, 1) := by decide +kernel
theorem dX12_toLine_113 : decode cX12_toLine 113 = .ok (.aload_n 0, 1) := by decide +kernel
theorem dX12_toLine_114 : decode cX12_toLine 114 = .ok (.iload_n 1, 1) := by decide +kernel
theorem dX12_toLine_115 : decode cX12_toLine 115 = .ok (.iload_n 2, 1) := by decide +kernel
theorem dX12_toLine_116 : decode cX12_toLine 116 = .ok (.iconst (-1), 1) := by decide +kernel
theorem dX12_toLine_117 : decode cX12_toLine 117 = .ok (.invokevirtual 373, 3) := by decide +kernel
theorem dX12_toLine_120 : decode cX12_toLine 120 = .ok (.goto 57, 3) := by decide +kernel
theorem dX12_toLine_123 : decode cX12_toLine 123 = .ok (.iload_n 3, 1) := by decide +kernel
theorem dX12_toLine_124 : decode cX12_toLine 124 = .ok (.ifCond .eq 20, 3) := by decide +kernel
theorem dX12_toLine_127 : decode cX12_toLine 127 = .ok (.aload_n 0, 1) := by decide +kernel
theorem dX12_toLine_128 : decode cX12_toLine 128 = .ok (.getfield 59, 3) := by decide +kernel
theorem dX12_toLine_131 : decode cX12_toLine 131 = .ok (.iload_n 2, 1) := by decide +kernel
theorem dX12_toLine_132 : decode cX12_toLine 132 = .ok (.iload_n 1, 1) := by decide +kernel
theorem dX12_toLine_133 : decode cX12_toLine 133 = .ok (.iastore, 1) := by decide +kernel
theorem dX12_toLine_134 : decode cX12_toLine 134 = .ok (.aload_n 0, 1) := by decide +kernel
theorem dX12_toLine_135 : decode cX12_toLine 135 = .ok (.iload_n 1, 1) := by decide +kernel
theorem dX12_toLine_136 : decode cX12_toLine 136 = .ok (.iload_n 2, 1) := by decide +kernel
theorem dX12_toLine_137 : decode cX12_toLine 137 = .ok (.iconst (-1), 1) := by decide +kernel
theorem dX12_toLine_138 : decode cX12_toLine 138 = .ok (.invokevirtual 373, 3) := by decide +kernel
theorem dX12_toLine_141 : decode cX12_toLine 141 = .ok (.goto 36, 3) := by decide +kernel
theorem dX12_toLine_144 : decode cX12_toLine 144 = .ok (.aload_n 0, 1) := by decide +kernel
theorem dX12_toLine_145 : decode cX12_toLine 145 = .ok (.getfield 86, 3) := by decide +kernel
theorem dX12_toLine_148 : decode cX12_toLine 148 = .ok (.iconst 3, 1) := by decide +kernel
theorem dX12_toLine_149 : decode cX12_toLine 149 = .ok (.iload_n 2, 1) := by decide +kernel
theorem dX12_toLine_150 : decode cX12_toLine 150 = .ok (.imul, 1) := by decide +kernel
theorem dX12_toLine_151 : decode cX12_toLine 151 = .ok (.iconst 1, 1) := by decide +kernel
theorem dX12_toLine_152 : decode cX12_toLine 152 = .ok (.iadd, 1) := by decide +kernel
theorem dX12_toLine_153 : decode cX12_toLine 153 = .ok (.iaload, 1) := by decide +kernel
theorem dX12_toLine_154 : decode cX12_toLine 154 = .ok (.ifCond .le 16, 3) := by decide +kernel
theorem dX12_toLine_157 : decode cX12_toLine 157 = .ok (.aload_n 0, 1) := by decide +kernel
theorem dX12_toLine_158 : decode cX12_toLine 158 = .ok (.iload_n 1, 1) := by decide +kernel
theorem dX12_toLine_159 : decode cX12_toLine 159 = .ok (.iconst 3, 1) := by decide +kernel
theorem dX12_toLine_160 : decode cX12_toLine 160 = .ok (.iload_n 2, 1) := by decide +kernel
theorem dX12_toLine_161 : decode cX12_toLine 161 = .ok (.imul, 1) := by decide +kernel
theorem dX12_toLine_162 : decode cX12_toLine 162 = .ok (.iconst 1, 1) := by decide +kernel
theorem dX12_toLine_163 : decode cX12_toLine 163 = .ok (.iadd, 1) := by decide +kernel
theorem dX12_toLine_164 : decode cX12_toLine 164 = .ok (.invokevirtual 367, 3) := by decide +kernel
theorem dX12_toLine_167 : decode cX12_toLine 167 = .ok (.goto 10, 3) := by decide +kernel
theorem dX12_toLine_170 : decode cX12_toLine 170 = .ok (.aload_n 0, 1) := by decide +kernel
theorem dX12_toLine_171 : decode cX12_toLine 171 = .ok (.iload_n 1, 1) := by decide +kernel
theorem dX12_toLine_172 : decode cX12_toLine 172 = .ok (.iconst 2, 1) := by decide +kernel
theorem dX12_toLine_173 : decode cX12_toLine 173 = .ok (.iconst (-1), 1) := by decide +kernel
theorem dX12_toLine_174 : decode cX12_toLine 174 = .ok (.invokevirtual 323, 3) := by decide +kernel
theorem dX12_toLine_177 : decode cX12_toLine 177 = .ok (.return_, 1) := by decide +kernel
theorem dX12_goesOn_0 : decode cX12_goesOn 0 = .ok (.aload_n 0, 1) := by decide +kernel
theorem dX12_goesOn_1 : decode cX12_goesOn 1 = .ok (.getfield 107, 3) := by decide +kernel
theorem dX12_goesOn_4 : decode cX12_goesOn 4 = .ok (.iload_n 1, 1) := by decide +kernel
theorem dX12_goesOn_5 : decode cX12_goesOn 5 = .ok (.iconst (-1), 1) := by decide +kernel
theorem dX12_goesOn_6 : decode cX12_goesOn 6 = .ok (.iastore, 1) := by decide +kernel
theorem dX12_goesOn_7 : decode cX12_goesOn 7 = .ok (.aload_n 0, 1) := by decide +kernel
theorem dX12_goesOn_8 : decode cX12_goesOn 8 = .ok (.getfield 128, 3) := by decide +kernel
theorem dX12_goesOn_11 : decode cX12_goesOn 11 = .ok (.iload_n 1, 1) := by decide +kernel
theorem dX12_goesOn_12 : decode cX12_goesOn 12 = .ok (.dup2, 1) := by decide +kernel
theorem dX12_goesOn_13 : decode cX12_goesOn 13 = .ok (.iaload, 1) := by decide +kernel
theorem dX12_goesOn_14 : decode cX12_goesOn 14 = .ok (.iconst 1, 1) := by decide +kernel
theorem dX12_goesOn_15 : decode cX12_goesOn 15 = .ok (.iadd, 1) := by decide +kernel
theorem dX12_goesOn_16 : decode cX12_goesOn 16 = .ok (.iastore, 1) := by decide +kernel
theorem dX12_goesOn_17 : decode cX12_goesOn 17 = .ok (.aload_n 0, 1) := by decide +kernel
theorem dX12_goesOn_18 : decode cX12_goesOn 18 = .ok (.getfield 128, 3) := by decide +kernel
theorem dX12_goesOn_21 : decode cX12_goesOn 21 = .ok (.iload_n 1, 1) := by decide +kernel
theorem dX12_goesOn_22 : decode cX12_goesOn 22 = .ok (.iaload, 1) := by decide +kernel
theorem dX12_goesOn_23 : decode cX12_goesOn 23 = .ok (.iconst 5, 1) := by decide +kernel
theorem dX12_goesOn_24 : decode cX12_goesOn 24 = .ok (.if_icmp .le 11, 3) := by decide +kernel
theorem dX12_goesOn_27 : decode cX12_goesOn 27 = .ok (.aload_n 0, 1) := by decide +kernel
theorem dX12_goesOn_28 : decode cX12_goesOn 28 = .ok (.iload_n 1, 1) := by decide +kernel
theorem dX12_goesOn_29 : decode cX12_goesOn 29 = .ok (.iconst 2, 1) := by decide +kernel
theorem dX12_goesOn_30 : decode cX12_goesOn 30 = .ok (.iconst (-1), 1) := by decide +kernel
theorem dX12_goesOn_31 : decode cX12_goesOn 31 = .ok (.invokevirtual 323, 3) := by decide +kernel
theorem dX12_goesOn_34 : decode cX12_goesOn 34 = .ok (.return_, 1) := by decide +kernel
theorem dX12_goesOn_35 : decode cX12_goesOn 35 = .ok (.aload_n 0, 1) := by decide +kernel
theorem dX12_goesOn_36 : decode cX12_goesOn 36 = .ok (.getfield 116, 3) := by decide +kernel
theorem dX12_goesOn_39 : decode cX12_goesOn 39 = .ok (.iload_n 1, 1) := by decide +kernel
theorem dX12_goesOn_40 : decode cX12_goesOn 40 = .ok (.aload_n 0, 1) := by decide +kernel
theorem dX12_goesOn_41 : decode cX12_goesOn 41 = .ok (.getfield 86, 3) := by decide +kernel
theorem dX12_goesOn_44 : decode cX12_goesOn 44 = .ok (.iload_n 2, 1) := by decide +kernel
theorem dX12_goesOn_45 : decode cX12_goesOn 45 = .ok (.iaload, 1) := by decide +kernel
theorem dX12_goesOn_46 : decode cX12_goesOn 46 = .ok (.iastore, 1) := by decide +kernel
theorem dX12_goesOn_47 : decode cX12_goesOn 47 = .ok (.iconst 0, 1) := by decide +kernel
theorem dX12_goesOn_48 : decode cX12_goesOn 48 = .ok (.istore_n 3, 1) := by decide +kernel
theorem dX12_goesOn_49 : decode cX12_goesOn 49 = .ok (.iload_n 3, 1) := by decide +kernel
theorem dX12_goesOn_50 : decode cX12_goesOn 50 = .ok (.aload_n 0, 1) := by decide +kernel
theorem dX12_goesOn_51 : decode cX12_goesOn 51 = .ok (.getfield 86, 3) := by decide +kernel
theorem dX12_goesOn_54 : decode cX12_goesOn 54 = .ok (.iload_n 2, 1) := by decide +kernel
theorem dX12_goesOn_55 : decode cX12_goesOn 55 = .ok (.iaload, 1) := by decide +kernel
theorem dX12_goesOn_56 : decode cX12_goesOn 56 = .ok (.if_icmp .ge 31, 3) := by decide +kernel
theorem dX12_goesOn_59 : decode cX12_goesOn 59 = .ok (.aload_n 0, 1) := by decide +kernel
theorem dX12_goesOn_60 : decode cX12_goesOn 60 = .ok (.getfield 113, 3) := by decide +kernel
theorem dX12_goesOn_63 : decode cX12_goesOn 63 = .ok (.bipush 12, 2) := by decide +kernel
theorem dX12_goesOn_65 : decode cX12_goesOn 65 = .ok (.iload_n 1, 1) := by decide +kernel
theorem dX12_goesOn_66 : decode cX12_goesOn 66 = .ok (.imul, 1) := by decide +kernel
theorem dX12_goesOn_67 : decode cX12_goesOn 67 = .ok (.iload_n 3, 1) := by decide +kernel
theorem dX12_goesOn_68 : decode cX12_goesOn 68 = .ok (.iadd, 1) := by decide +kernel
theorem dX12_goesOn_69 : decode cX12_goesOn 69 = .ok (.aload_n 0, 1) := by decide +kernel
theorem dX12_goesOn_70 : decode cX12_goesOn 70 = .ok (.getfield 83, 3) := by decide +kernel
theorem dX12_goesOn_73 : decode cX12_goesOn 73 = .ok (.bipush 12, 2) := by decide +kernel
theorem dX12_goesOn_75 : decode cX12_goesOn 75 = .ok (.iload_n 2, 1) := by decide +kernel
theorem dX12_goesOn_76 : decode cX12_goesOn 76 = .ok (.imul, 1) := by decide +kernel
theorem dX12_goesOn_77 : decode cX12_goesOn 77 = .ok (.iload_n 3, 1) := by decide +kernel
theorem dX12_goesOn_78 : decode cX12_goesOn 78 = .ok (.iadd, 1) := by decide +kernel
theorem dX12_goesOn_79 : decode cX12_goesOn 79 = .ok (.iaload, 1) := by decide +kernel
theorem dX12_goesOn_80 : decode cX12_goesOn 80 = .ok (.iastore, 1) := by decide +kernel
theorem dX12_goesOn_81 : decode cX12_goesOn 81 = .ok (.iinc 3 1, 3) := by decide +kernel
theorem dX12_goesOn_84 : decode cX12_goesOn 84 = .ok (.goto (-35), 3) := by decide +kernel
theorem dX12_goesOn_87 : decode cX12_goesOn 87 = .ok (.aload_n 0, 1) := by decide +kernel
theorem dX12_goesOn_88 : decode cX12_goesOn 88 = .ok (.iload_n 1, 1) := by decide +kernel
theorem dX12_goesOn_89 : decode cX12_goesOn 89 = .ok (.invokevirtual 327, 3) := by decide +kernel
theorem dX12_goesOn_92 : decode cX12_goesOn 92 = .ok (.istore_n 3, 1) := by decide +kernel
theorem dX12_goesOn_93 : decode cX12_goesOn 93 = .ok (.iload_n 3, 1) := by decide +kernel
theorem dX12_goesOn_94 : decode cX12_goesOn 94 = .ok (.ifCond .ge 13, 3) := by decide +kernel
theorem dX12_goesOn_97 : decode cX12_goesOn 97 = .ok (.aload_n 0, 1) := by decide +kernel
theorem dX12_goesOn_98 : decode cX12_goesOn 98 = .ok (.iload_n 1, 1) := by decide +kernel
theorem dX12_goesOn_99 : decode cX12_goesOn 99 = .ok (.iconst 1, 1) := by decide +kernel
theorem dX12_goesOn_100 : decode cX12_goesOn 100 = .ok (.iconst (-1), 1) := by decide +kernel
theorem dX12_goesOn_101 : decode cX12_goesOn 101 = .ok (.invokevirtual 323, 3) := by decide +kernel
theorem dX12_goesOn_104 : decode cX12_goesOn 104 = .ok (.goto 9, 3) := by decide +kernel
theorem dX12_goesOn_107 : decode cX12_goesOn 107 = .ok (.aload_n 0, 1) := by decide +kernel
theorem dX12_goesOn_108 : decode cX12_goesOn 108 = .ok (.iload_n 1, 1) := by decide +kernel
theorem dX12_goesOn_109 : decode cX12_goesOn 109 = .ok (.iload_n 3, 1) := by decide +kernel
theorem dX12_goesOn_110 : decode cX12_goesOn 110 = .ok (.invokevirtual 331, 3) := by decide +kernel
theorem dX12_goesOn_113 : decode cX12_goesOn 113 = .ok (.return_, 1) := by decide +kernel
theorem dX12_toRoom_0 : decode cX12_toRoom 0 = .ok (.aload_n 0, 1) := by decide +kernel
theorem dX12_toRoom_1 : decode cX12_toRoom 1 = .ok (.aload_n 0, 1) := by decide +kernel
theorem dX12_toRoom_2 : decode cX12_toRoom 2 = .ok (.getfield 101, 3) := by decide +kernel
theorem dX12_toRoom_5 : decode cX12_toRoom 5 = .ok (.iload_n 1, 1) := by decide +kernel
theorem dX12_toRoom_6 : decode cX12_toRoom 6 = .ok (.iaload, 1) := by decide +kernel
theorem dX12_toRoom_7 : decode cX12_toRoom 7 = .ok (.iload_n 2, 1) := by decide +kernel
theorem dX12_toRoom_8 : decode cX12_toRoom 8 = .ok (.invokevirtual 376, 3) := by decide +kernel
theorem dX12_toRoom_11 : decode cX12_toRoom 11 = .ok (.bipush 8, 2) := by decide +kernel
theorem dX12_toRoom_13 : decode cX12_toRoom 13 = .ok (.if_icmp .ne 11, 3) := by decide +kernel
theorem dX12_toRoom_16 : decode cX12_toRoom 16 = .ok (.aload_n 0, 1) := by decide +kernel
theorem dX12_toRoom_17 : decode cX12_toRoom 17 = .ok (.iload_n 1, 1) := by decide +kernel
theorem dX12_toRoom_18 : decode cX12_toRoom 18 = .ok (.iconst 2, 1) := by decide +kernel
theorem dX12_toRoom_19 : decode cX12_toRoom 19 = .ok (.iconst (-1), 1) := by decide +kernel
theorem dX12_toRoom_20 : decode cX12_toRoom 20 = .ok (.invokevirtual 323, 3) := by decide +kernel
theorem dX12_toRoom_23 : decode cX12_toRoom 23 = .ok (.return_, 1) := by decide +kernel
theorem dX12_toRoom_24 : decode cX12_toRoom 24 = .ok (.aload_n 0, 1) := by decide +kernel
theorem dX12_toRoom_25 : decode cX12_toRoom 25 = .ok (.getfield 107, 3) := by decide +kernel
theorem dX12_toRoom_28 : decode cX12_toRoom 28 = .ok (.iload_n 1, 1) := by decide +kernel
theorem dX12_toRoom_29 : decode cX12_toRoom 29 = .ok (.sipush 200, 3) := by decide +kernel
theorem dX12_toRoom_32 : decode cX12_toRoom 32 = .ok (.iload_n 2, 1) := by decide +kernel
theorem dX12_toRoom_33 : decode cX12_toRoom 33 = .ok (.iadd, 1) := by decide +kernel
theorem dX12_toRoom_34 : decode cX12_toRoom 34 = .ok (.iastore, 1) := by decide +kernel
theorem dX12_toRoom_35 : decode cX12_toRoom 35 = .ok (.aload_n 0, 1) := by decide +kernel
theorem dX12_toRoom_36 : decode cX12_toRoom 36 = .ok (.iload_n 1, 1) := by decide +kernel
theorem dX12_toRoom_37 : decode cX12_toRoom 37 = .ok (.invokevirtual 320, 3) := by decide +kernel
theorem dX12_toRoom_40 : decode cX12_toRoom 40 = .ok (.return_, 1) := by decide +kernel
theorem dX12_inRoom_0 : decode cX12_inRoom 0 = .ok (.iconst 0, 1) := by decide +kernel
theorem dX12_inRoom_1 : decode cX12_inRoom 1 = .ok (.istore_n 3, 1) := by decide +kernel
theorem dX12_inRoom_2 : decode cX12_inRoom 2 = .ok (.iconst 0, 1) := by decide +kernel
theorem dX12_inRoom_3 : decode cX12_inRoom 3 = .ok (.istore 4, 2) := by decide +kernel
theorem dX12_inRoom_5 : decode cX12_inRoom 5 = .ok (.iload 4, 2) := by decide +kernel
theorem dX12_inRoom_7 : decode cX12_inRoom 7 = .ok (.bipush 80, 2) := by decide +kernel
theorem dX12_inRoom_9 : decode cX12_inRoom 9 = .ok (.if_icmp .ge 54, 3) := by decide +kernel
theorem dX12_inRoom_12 : decode cX12_inRoom 12 = .ok (.iload_n 3, 1) := by decide +kernel
theorem dX12_inRoom_13 : decode cX12_inRoom 13 = .ok (.aload_n 0, 1) := by decide +kernel
theorem dX12_inRoom_14 : decode cX12_inRoom 14 = .ok (.getfield 95, 3) := by decide +kernel
theorem dX12_inRoom_17 : decode cX12_inRoom 17 = .ok (.iload 4, 2) := by decide +kernel
theorem dX12_inRoom_19 : decode cX12_inRoom 19 = .ok (.iaload, 1) := by decide +kernel
theorem dX12_inRoom_20 : decode cX12_inRoom 20 = .ok (.iconst 3, 1) := by decide +kernel
theorem dX12_inRoom_21 : decode cX12_inRoom 21 = .ok (.if_icmp .ne 33, 3) := by decide +kernel
theorem dX12_inRoom_24 : decode cX12_inRoom 24 = .ok (.aload_n 0, 1) := by decide +kernel
theorem dX12_inRoom_25 : decode cX12_inRoom 25 = .ok (.getfield 101, 3) := by decide +kernel
theorem dX12_inRoom_28 : decode cX12_inRoom 28 = .ok (.iload 4, 2) := by decide +kernel
theorem dX12_inRoom_30 : decode cX12_inRoom 30 = .ok (.iaload, 1) := by decide +kernel
theorem dX12_inRoom_31 : decode cX12_inRoom 31 = .ok (.iload_n 1, 1) := by decide +kernel
theorem dX12_inRoom_32 : decode cX12_inRoom 32 = .ok (.if_icmp .ne 22, 3) := by decide +kernel
theorem dX12_inRoom_35 : decode cX12_inRoom 35 = .ok (.aload_n 0, 1) := by decide +kernel
theorem dX12_inRoom_36 : decode cX12_inRoom 36 = .ok (.getfield 107, 3) := by decide +kernel
theorem dX12_inRoom_39 : decode cX12_inRoom 39 = .ok (.iload 4, 2) := by decide +kernel
theorem dX12_inRoom_41 : decode cX12_inRoom 41 = .ok (.iaload, 1) := by decide +kernel
theorem dX12_inRoom_42 : decode cX12_inRoom 42 = .ok (.sipush 200, 3) := by decide +kernel
theorem dX12_inRoom_45 : decode cX12_inRoom 45 = .ok (.iload_n 2, 1) := by decide +kernel
theorem dX12_inRoom_46 : decode cX12_inRoom 46 = .ok (.iadd, 1) := by decide +kernel
theorem dX12_inRoom_47 : decode cX12_inRoom 47 = .ok (.if_icmp .ne 7, 3) := by decide +kernel
theorem dX12_inRoom_50 : decode cX12_inRoom 50 = .ok (.iconst 1, 1) := by decide +kernel
theorem dX12_inRoom_51 : decode cX12_inRoom 51 = .ok (.goto 4, 3) := by decide +kernel
theorem dX12_inRoom_54 : decode cX12_inRoom 54 = .ok (.iconst 0, 1) := by decide +kernel
theorem dX12_inRoom_55 : decode cX12_inRoom 55 = .ok (.iadd, 1) := by decide +kernel
theorem dX12_inRoom_56 : decode cX12_inRoom 56 = .ok (.istore_n 3, 1) := by decide +kernel
theorem dX12_inRoom_57 : decode cX12_inRoom 57 = .ok (.iinc 4 1, 3) := by decide +kernel
theorem dX12_inRoom_60 : decode cX12_inRoom 60 = .ok (.goto (-55), 3) := by decide +kernel
theorem dX12_inRoom_63 : decode cX12_inRoom 63 = .ok (.iload_n 3, 1) := by decide +kernel
theorem dX12_inRoom_64 : decode cX12_inRoom 64 = .ok (.ireturn, 1) := by decide +kernel
theorem dX12_acm_0 : decode cX12_acm 0 = .ok (.aload_n 0, 1) := by decide +kernel
theorem dX12_acm_1 : decode cX12_acm 1 = .ok (.getfield 104, 3) := by decide +kernel
theorem dX12_acm_4 : decode cX12_acm 4 = .ok (.iload_n 1, 1) := by decide +kernel
theorem dX12_acm_5 : decode cX12_acm 5 = .ok (.iaload, 1) := by decide +kernel
theorem dX12_acm_6 : decode cX12_acm 6 = .ok (.invokestatic 379, 3) := by decide +kernel
theorem dX12_acm_9 : decode cX12_acm 9 = .ok (.ifCond .eq 12, 3) := by decide +kernel
theorem dX12_acm_12 : decode cX12_acm 12 = .ok (.aload_n 0, 1) := by decide +kernel
theorem dX12_acm_13 : decode cX12_acm 13 = .ok (.getfield 140, 3) := by decide +kernel
theorem dX12_acm_16 : decode cX12_acm 16 = .ok (.iload_n 1, 1) := by decide +kernel
theorem dX12_acm_17 : decode cX12_acm 17 = .ok (.baload, 1) := by decide +kernel
theorem dX12_acm_18 : decode cX12_acm 18 = .ok (.ifCond .eq 4, 3) := by decide +kernel
theorem dX12_acm_21 : decode cX12_acm 21 = .ok (.return_, 1) := by decide +kernel
theorem dX12_acm_22 : decode cX12_acm 22 = .ok (.aload_n 0, 1) := by decide +kernel
theorem dX12_acm_23 : decode cX12_acm 23 = .ok (.getfield 140, 3) := by decide +kernel
theorem dX12_acm_26 : decode cX12_acm 26 = .ok (.iload_n 1, 1) := by decide +kernel
theorem dX12_acm_27 : decode cX12_acm 27 = .ok (.iconst 1, 1) := by decide +kernel
theorem dX12_acm_28 : decode cX12_acm 28 = .ok (.bastore, 1) := by decide +kernel
theorem dX12_acm_29 : decode cX12_acm 29 = .ok (.aload_n 0, 1) := by decide +kernel
theorem dX12_acm_30 : decode cX12_acm 30 = .ok (.aload_n 0, 1) := by decide +kernel
theorem dX12_acm_31 : decode cX12_acm 31 = .ok (.getfield 104, 3) := by decide +kernel
theorem dX12_acm_34 : decode cX12_acm 34 = .ok (.iload_n 1, 1) := by decide +kernel
theorem dX12_acm_35 : decode cX12_acm 35 = .ok (.iaload, 1) := by decide +kernel
theorem dX12_acm_36 : decode cX12_acm 36 = .ok (.bipush 100, 2) := by decide +kernel
theorem dX12_acm_38 : decode cX12_acm 38 = .ok (.isub, 1) := by decide +kernel
theorem dX12_acm_39 : decode cX12_acm 39 = .ok (.iconst 2, 1) := by decide +kernel
theorem dX12_acm_40 : decode cX12_acm 40 = .ok (.invokevirtual 352, 3) := by decide +kernel
theorem dX12_acm_43 : decode cX12_acm 43 = .ok (.aload_n 0, 1) := by decide +kernel
theorem dX12_acm_44 : decode cX12_acm 44 = .ok (.aload_n 0, 1) := by decide +kernel
theorem dX12_acm_45 : decode cX12_acm 45 = .ok (.getfield 101, 3) := by decide +kernel
theorem dX12_acm_48 : decode cX12_acm 48 = .ok (.iload_n 1, 1) := by decide +kernel
theorem dX12_acm_49 : decode cX12_acm 49 = .ok (.iaload, 1) := by decide +kernel
theorem dX12_acm_50 : decode cX12_acm 50 = .ok (.invokevirtual 358, 3) := by decide +kernel
theorem dX12_acm_53 : decode cX12_acm 53 = .ok (.return_, 1) := by decide +kernel
theorem dX12_answered_0 : decode cX12_answered 0 = .ok (.aload_n 0, 1) := by decide +kernel
theorem dX12_answered_1 : decode cX12_answered 1 = .ok (.iload_n 1, 1) := by decide +kernel
theorem dX12_answered_2 : decode cX12_answered 2 = .ok (.invokevirtual 364, 3) := by decide +kernel
theorem dX12_answered_5 : decode cX12_answered 5 = .ok (.aload_n 0, 1) := by decide +kernel
theorem dX12_answered_6 : decode cX12_answered 6 = .ok (.iload_n 1, 1) := by decide +kernel
theorem dX12_answered_7 : decode cX12_answered 7 = .ok (.iconst 3, 1) := by decide +kernel
theorem dX12_answered_8 : decode cX12_answered 8 = .ok (.invokevirtual 361, 3) := by decide +kernel
theorem dX12_answered_11 : decode cX12_answered 11 = .ok (.aload_n 0, 1) := by decide +kernel
theorem dX12_answered_12 : decode cX12_answered 12 = .ok (.getfield 110, 3) := by decide +kernel
theorem dX12_answered_15 : decode cX12_answered 15 = .ok (.iload_n 1, 1) := by decide +kernel
theorem dX12_answered_16 : decode cX12_answered 16 = .ok (.iconst (-1), 1) := by decide +kernel
theorem dX12_answered_17 : decode cX12_answered 17 = .ok (.iastore, 1) := by decide +kernel
theorem dX12_answered_18 : decode cX12_answered 18 = .ok (.aload_n 0, 1) := by decide +kernel
theorem dX12_answered_19 : decode cX12_answered 19 = .ok (.getfield 134, 3) := by decide +kernel
theorem dX12_answered_22 : decode cX12_answered 22 = .ok (.iload_n 1, 1) := by decide +kernel
theorem dX12_answered_23 : decode cX12_answered 23 = .ok (.aload_n 0, 1) := by decide +kernel
theorem dX12_answered_24 : decode cX12_answered 24 = .ok (.getfield 285, 3) := by decide +kernel
theorem dX12_answered_27 : decode cX12_answered 27 = .ok (.iastore, 1) := by decide +kernel
theorem dX12_answered_28 : decode cX12_answered 28 = .ok (.aload_n 0, 1) := by decide +kernel
theorem dX12_answered_29 : decode cX12_answered 29 = .ok (.getfield 104, 3) := by decide +kernel
theorem dX12_answered_32 : decode cX12_answered 32 = .ok (.iload_n 1, 1) := by decide +kernel
theorem dX12_answered_33 : decode cX12_answered 33 = .ok (.iaload, 1) := by decide +kernel
theorem dX12_answered_34 : decode cX12_answered 34 = .ok (.invokestatic 379, 3) := by decide +kernel
theorem dX12_answered_37 : decode cX12_answered 37 = .ok (.ifCond .eq 30, 3) := by decide +kernel
theorem dX12_answered_40 : decode cX12_answered 40 = .ok (.aload_n 0, 1) := by decide +kernel
theorem dX12_answered_41 : decode cX12_answered 41 = .ok (.aload_n 0, 1) := by decide +kernel
theorem dX12_answered_42 : decode cX12_answered 42 = .ok (.getfield 104, 3) := by decide +kernel
theorem dX12_answered_45 : decode cX12_answered 45 = .ok (.iload_n 1, 1) := by decide +kernel
theorem dX12_answered_46 : decode cX12_answered 46 = .ok (.iaload, 1) := by decide +kernel
theorem dX12_answered_47 : decode cX12_answered 47 = .ok (.bipush 100, 2) := by decide +kernel
theorem dX12_answered_49 : decode cX12_answered 49 = .ok (.isub, 1) := by decide +kernel
theorem dX12_answered_50 : decode cX12_answered 50 = .ok (.iconst 3, 1) := by decide +kernel
theorem dX12_answered_51 : decode cX12_answered 51 = .ok (.invokevirtual 352, 3) := by decide +kernel
theorem dX12_answered_54 : decode cX12_answered 54 = .ok (.aload_n 0, 1) := by decide +kernel
theorem dX12_answered_55 : decode cX12_answered 55 = .ok (.aload_n 0, 1) := by decide +kernel
theorem dX12_answered_56 : decode cX12_answered 56 = .ok (.getfield 101, 3) := by decide +kernel
theorem dX12_answered_59 : decode cX12_answered 59 = .ok (.iload_n 1, 1) := by decide +kernel
theorem dX12_answered_60 : decode cX12_answered 60 = .ok (.iaload, 1) := by decide +kernel
theorem dX12_answered_61 : decode cX12_answered 61 = .ok (.invokevirtual 358, 3) := by decide +kernel
theorem dX12_answered_64 : decode cX12_answered 64 = .ok (.goto 30, 3) := by decide +kernel
theorem dX12_answered_67 : decode cX12_answered 67 = .ok (.aload_n 0, 1) := by decide +kernel
theorem dX12_answered_68 : decode cX12_answered 68 = .ok (.iload_n 1, 1) := by decide +kernel
theorem dX12_answered_69 : decode cX12_answered 69 = .ok (.aload_n 0, 1) := by decide +kernel
theorem dX12_answered_70 : decode cX12_answered 70 = .ok (.getfield 240, 3) := by decide +kernel
theorem dX12_answered_73 : decode cX12_answered 73 = .ok (.aload_n 0, 1) := by decide +kernel
theorem dX12_answered_74 : decode cX12_answered 74 = .ok (.getfield 125, 3) := by decide +kernel
theorem dX12_answered_77 : decode cX12_answered 77 = .ok (.iload_n 1, 1) := by decide +kernel
theorem dX12_answered_78 : decode cX12_answered 78 = .ok (.iaload, 1) := by decide +kernel
theorem dX12_answered_79 : decode cX12_answered 79 = .ok (.iaload, 1) := by decide +kernel
theorem dX12_answered_80 : decode cX12_answered 80 = .ok (.aload_n 0, 1) := by decide +kernel
theorem dX12_answered_81 : decode cX12_answered 81 = .ok (.aload_n 0, 1) := by decide +kernel
theorem dX12_answered_82 : decode cX12_answered 82 = .ok (.getfield 125, 3) := by decide +kernel
theorem dX12_answered_85 : decode cX12_answered 85 = .ok (.iload_n 1, 1) := by decide +kernel
theorem dX12_answered_86 : decode cX12_answered 86 = .ok (.iaload, 1) := by decide +kernel
theorem dX12_answered_87 : decode cX12_answered 87 = .ok (.invokevirtual 382, 3) := by decide +kernel
theorem dX12_answered_90 : decode cX12_answered 90 = .ok (.iadd, 1) := by decide +kernel
theorem dX12_answered_91 : decode cX12_answered 91 = .ok (.invokevirtual 385, 3) := by decide +kernel
theorem dX12_answered_94 : decode cX12_answered 94 = .ok (.return_, 1) := by decide +kernel
theorem dX12_over_0 : decode cX12_over 0 = .ok (.aload_n 0, 1) := by decide +kernel
theorem dX12_over_1 : decode cX12_over 1 = .ok (.getfield 95, 3) := by decide +kernel
theorem dX12_over_4 : decode cX12_over 4 = .ok (.iload_n 1, 1) := by decide +kernel
theorem dX12_over_5 : decode cX12_over 5 = .ok (.iaload, 1) := by decide +kernel
theorem dX12_over_6 : decode cX12_over 6 = .ok (.iconst 3, 1) := by decide +kernel
theorem dX12_over_7 : decode cX12_over 7 = .ok (.if_icmp .ne 20, 3) := by decide +kernel
theorem dX12_over_10 : decode cX12_over 10 = .ok (.aload_n 0, 1) := by decide +kernel
theorem dX12_over_11 : decode cX12_over 11 = .ok (.getfield 104, 3) := by decide +kernel
theorem dX12_over_14 : decode cX12_over 14 = .ok (.iload_n 1, 1) := by decide +kernel
theorem dX12_over_15 : decode cX12_over 15 = .ok (.iaload, 1) := by decide +kernel
theorem dX12_over_16 : decode cX12_over 16 = .ok (.invokestatic 349, 3) := by decide +kernel
theorem dX12_over_19 : decode cX12_over 19 = .ok (.ifCond .eq 8, 3) := by decide +kernel
theorem dX12_over_22 : decode cX12_over 22 = .ok (.aload_n 0, 1) := by decide +kernel
theorem dX12_over_23 : decode cX12_over 23 = .ok (.iload_n 1, 1) := by decide +kernel
theorem dX12_over_24 : decode cX12_over 24 = .ok (.invokevirtual 388, 3) := by decide +kernel
theorem dX12_over_27 : decode cX12_over 27 = .ok (.aload_n 0, 1) := by decide +kernel
theorem dX12_over_28 : decode cX12_over 28 = .ok (.getfield 95, 3) := by decide +kernel
theorem dX12_over_31 : decode cX12_over 31 = .ok (.iload_n 1, 1) := by decide +kernel
theorem dX12_over_32 : decode cX12_over 32 = .ok (.iaload, 1) := by decide +kernel
theorem dX12_over_33 : decode cX12_over 33 = .ok (.iconst 4, 1) := by decide +kernel
theorem dX12_over_34 : decode cX12_over 34 = .ok (.if_icmp .ne 8, 3) := by decide +kernel
theorem dX12_over_37 : decode cX12_over 37 = .ok (.aload_n 0, 1) := by decide +kernel
theorem dX12_over_38 : decode cX12_over 38 = .ok (.iload_n 1, 1) := by decide +kernel
theorem dX12_over_39 : decode cX12_over 39 = .ok (.invokevirtual 390, 3) := by decide +kernel
theorem dX12_over_42 : decode cX12_over 42 = .ok (.aload_n 0, 1) := by decide +kernel
theorem dX12_over_43 : decode cX12_over 43 = .ok (.getfield 104, 3) := by decide +kernel
theorem dX12_over_46 : decode cX12_over 46 = .ok (.iload_n 1, 1) := by decide +kernel
theorem dX12_over_47 : decode cX12_over 47 = .ok (.iaload, 1) := by decide +kernel
theorem dX12_over_48 : decode cX12_over 48 = .ok (.istore 4, 2) := by decide +kernel
theorem dX12_over_50 : decode cX12_over 50 = .ok (.aload_n 0, 1) := by decide +kernel
theorem dX12_over_51 : decode cX12_over 51 = .ok (.getfield 107, 3) := by decide +kernel
theorem dX12_over_54 : decode cX12_over 54 = .ok (.iload_n 1, 1) := by decide +kernel
theorem dX12_over_55 : decode cX12_over 55 = .ok (.iaload, 1) := by decide +kernel
theorem dX12_over_56 : decode cX12_over 56 = .ok (.istore 5, 2) := by decide +kernel
theorem dX12_over_58 : decode cX12_over 58 = .ok (.iload 4, 2) := by decide +kernel
theorem dX12_over_60 : decode cX12_over 60 = .ok (.iload_n 3, 1) := by decide +kernel
theorem dX12_over_61 : decode cX12_over 61 = .ok (.if_icmp .eq 11, 3) := by decide +kernel
theorem dX12_over_64 : decode cX12_over 64 = .ok (.aload_n 0, 1) := by decide +kernel
theorem dX12_over_65 : decode cX12_over 65 = .ok (.iload_n 1, 1) := by decide +kernel
theorem dX12_over_66 : decode cX12_over 66 = .ok (.iload 4, 2) := by decide +kernel
theorem dX12_over_68 : decode cX12_over 68 = .ok (.iload_n 2, 1) := by decide +kernel
theorem dX12_over_69 : decode cX12_over 69 = .ok (.invokevirtual 393, 3) := by decide +kernel
theorem dX12_over_72 : decode cX12_over 72 = .ok (.iload 5, 2) := by decide +kernel
theorem dX12_over_74 : decode cX12_over 74 = .ok (.iconst (-1), 1) := by decide +kernel
theorem dX12_over_75 : decode cX12_over 75 = .ok (.if_icmp .eq 17, 3) := by decide +kernel
theorem dX12_over_78 : decode cX12_over 78 = .ok (.iload 5, 2) := by decide +kernel
theorem dX12_over_80 : decode cX12_over 80 = .ok (.iload_n 3, 1) := by decide +kernel
theorem dX12_over_81 : decode cX12_over 81 = .ok (.if_icmp .eq 11, 3) := by decide +kernel
theorem dX12_over_84 : decode cX12_over 84 = .ok (.aload_n 0, 1) := by decide +kernel
theorem dX12_over_85 : decode cX12_over 85 = .ok (.iload_n 1, 1) := by decide +kernel
theorem dX12_over_86 : decode cX12_over 86 = .ok (.iload 5, 2) := by decide +kernel
theorem dX12_over_88 : decode cX12_over 88 = .ok (.iload_n 2, 1) := by decide +kernel
theorem dX12_over_89 : decode cX12_over 89 = .ok (.invokevirtual 393, 3) := by decide +kernel
theorem dX12_over_92 : decode cX12_over 92 = .ok (.aload_n 0, 1) := by decide +kernel
theorem dX12_over_93 : decode cX12_over 93 = .ok (.getfield 95, 3) := by decide +kernel
theorem dX12_over_96 : decode cX12_over 96 = .ok (.iload_n 1, 1) := by decide +kernel
theorem dX12_over_97 : decode cX12_over 97 = .ok (.iconst (-1), 1) := by decide +kernel
theorem dX12_over_98 : decode cX12_over 98 = .ok (.iastore, 1) := by decide +kernel
theorem dX12_over_99 : decode cX12_over 99 = .ok (.return_, 1) := by decide +kernel
theorem dX12_tells_0 : decode cX12_tells 0 = .ok (.iload_n 2, 1) := by decide +kernel
theorem dX12_tells_1 : decode cX12_tells 1 = .ok (.invokestatic 379, 3) := by decide +kernel
theorem dX12_tells_4 : decode cX12_tells 4 = .ok (.ifCond .eq 74, 3) := by decide +kernel
theorem dX12_tells_7 : decode cX12_tells 7 = .ok (.bipush 16, 2) := by decide +kernel
theorem dX12_tells_9 : decode cX12_tells 9 = .ok (.aload_n 0, 1) := by decide +kernel
theorem dX12_tells_10 : decode cX12_tells 10 = .ok (.getfield 101, 3) := by decide +kernel
theorem dX12_tells_13 : decode cX12_tells 13 = .ok (.iload_n 1, 1) := by decide +kernel
theorem dX12_tells_14 : decode cX12_tells 14 = .ok (.iaload, 1) := by decide +kernel
theorem dX12_tells_15 : decode cX12_tells 15 = .ok (.imul, 1) := by decide +kernel
theorem dX12_tells_16 : decode cX12_tells 16 = .ok (.iload_n 2, 1) := by decide +kernel
theorem dX12_tells_17 : decode cX12_tells 17 = .ok (.iadd, 1) := by decide +kernel
theorem dX12_tells_18 : decode cX12_tells 18 = .ok (.bipush 100, 2) := by decide +kernel
theorem dX12_tells_20 : decode cX12_tells 20 = .ok (.isub, 1) := by decide +kernel
theorem dX12_tells_21 : decode cX12_tells 21 = .ok (.istore 4, 2) := by decide +kernel
theorem dX12_tells_23 : decode cX12_tells 23 = .ok (.aload_n 0, 1) := by decide +kernel
theorem dX12_tells_24 : decode cX12_tells 24 = .ok (.iload_n 2, 1) := by decide +kernel
theorem dX12_tells_25 : decode cX12_tells 25 = .ok (.bipush 100, 2) := by decide +kernel
theorem dX12_tells_27 : decode cX12_tells 27 = .ok (.isub, 1) := by decide +kernel
theorem dX12_tells_28 : decode cX12_tells 28 = .ok (.iconst 4, 1) := by decide +kernel
theorem dX12_tells_29 : decode cX12_tells 29 = .ok (.invokevirtual 352, 3) := by decide +kernel
theorem dX12_tells_32 : decode cX12_tells 32 = .ok (.aload_n 0, 1) := by decide +kernel
theorem dX12_tells_33 : decode cX12_tells 33 = .ok (.getfield 164, 3) := by decide +kernel
theorem dX12_tells_36 : decode cX12_tells 36 = .ok (.aload_n 0, 1) := by decide +kernel
theorem dX12_tells_37 : decode cX12_tells 37 = .ok (.dup, 1) := by decide +kernel
theorem dX12_tells_38 : decode cX12_tells 38 = .ok (.getfield 355, 3) := by decide +kernel
theorem dX12_tells_41 : decode cX12_tells 41 = .ok (.dup_x1, 1) := by decide +kernel
theorem dX12_tells_42 : decode cX12_tells 42 = .ok (.iconst 1, 1) := by decide +kernel
theorem dX12_tells_43 : decode cX12_tells 43 = .ok (.iadd, 1) := by decide +kernel
theorem dX12_tells_44 : decode cX12_tells 44 = .ok (.putfield 355, 3) := by decide +kernel
theorem dX12_tells_47 : decode cX12_tells 47 = .ok (.iload_n 3, 1) := by decide +kernel
theorem dX12_tells_48 : decode cX12_tells 48 = .ok (.iastore, 1) := by decide +kernel
theorem dX12_tells_49 : decode cX12_tells 49 = .ok (.aload_n 0, 1) := by decide +kernel
theorem dX12_tells_50 : decode cX12_tells 50 = .ok (.aload_n 0, 1) := by decide +kernel
theorem dX12_tells_51 : decode cX12_tells 51 = .ok (.getfield 101, 3) := by decide +kernel
theorem dX12_tells_54 : decode cX12_tells 54 = .ok (.iload_n 1, 1) := by decide +kernel
theorem dX12_tells_55 : decode cX12_tells 55 = .ok (.iaload, 1) := by decide +kernel
theorem dX12_tells_56 : decode cX12_tells 56 = .ok (.invokevirtual 358, 3) := by decide +kernel
theorem dX12_tells_59 : decode cX12_tells 59 = .ok (.aload_n 0, 1) := by decide +kernel
theorem dX12_tells_60 : decode cX12_tells 60 = .ok (.getfield 158, 3) := by decide +kernel
theorem dX12_tells_63 : decode cX12_tells 63 = .ok (.iload 4, 2) := by decide +kernel
theorem dX12_tells_65 : decode cX12_tells 65 = .ok (.iconst 3, 1) := by decide +kernel
theorem dX12_tells_66 : decode cX12_tells 66 = .ok (.iastore, 1) := by decide +kernel
theorem dX12_tells_67 : decode cX12_tells 67 = .ok (.aload_n 0, 1) := by decide +kernel
theorem dX12_tells_68 : decode cX12_tells 68 = .ok (.getfield 161, 3) := by decide +kernel
theorem dX12_tells_71 : decode cX12_tells 71 = .ok (.iload 4, 2) := by decide +kernel
theorem dX12_tells_73 : decode cX12_tells 73 = .ok (.iconst (-1), 1) := by decide +kernel
theorem dX12_tells_74 : decode cX12_tells 74 = .ok (.iastore, 1) := by decide +kernel
theorem dX12_tells_75 : decode cX12_tells 75 = .ok (.goto 82, 3) := by decide +kernel
theorem dX12_tells_78 : decode cX12_tells 78 = .ok (.iload_n 2, 1) := by decide +kernel
theorem dX12_tells_79 : decode cX12_tells 79 = .ok (.invokestatic 349, 3) := by decide +kernel
theorem dX12_tells_82 : decode cX12_tells 82 = .ok (.ifCond .eq 75, 3) := by decide +kernel
theorem dX12_tells_85 : decode cX12_tells 85 = .ok (.aload_n 0, 1) := by decide +kernel
theorem dX12_tells_86 : decode cX12_tells 86 = .ok (.getfield 62, 3) := by decide +kernel
theorem dX12_tells_89 : decode cX12_tells 89 = .ok (.iload_n 2, 1) := by decide +kernel
theorem dX12_tells_90 : decode cX12_tells 90 = .ok (.iaload, 1) := by decide +kernel
theorem dX12_tells_91 : decode cX12_tells 91 = .ok (.iload_n 1, 1) := by decide +kernel
theorem dX12_tells_92 : decode cX12_tells 92 = .ok (.if_icmp .ne 8, 3) := by decide +kernel
theorem dX12_tells_95 : decode cX12_tells 95 = .ok (.aload_n 0, 1) := by decide +kernel
theorem dX12_tells_96 : decode cX12_tells 96 = .ok (.iload_n 2, 1) := by decide +kernel
theorem dX12_tells_97 : decode cX12_tells 97 = .ok (.invokevirtual 396, 3) := by decide +kernel
theorem dX12_tells_100 : decode cX12_tells 100 = .ok (.aload_n 0, 1) := by decide +kernel
theorem dX12_tells_101 : decode cX12_tells 101 = .ok (.getfield 56, 3) := by decide +kernel
theorem dX12_tells_104 : decode cX12_tells 104 = .ok (.iload_n 2, 1) := by decide +kernel
theorem dX12_tells_105 : decode cX12_tells 105 = .ok (.iaload, 1) := by decide +kernel
theorem dX12_tells_106 : decode cX12_tells 106 = .ok (.iload_n 1, 1) := by decide +kernel
theorem dX12_tells_107 : decode cX12_tells 107 = .ok (.if_icmp .ne 33, 3) := by decide +kernel
theorem dX12_tells_110 : decode cX12_tells 110 = .ok (.aload_n 0, 1) := by decide +kernel
theorem dX12_tells_111 : decode cX12_tells 111 = .ok (.getfield 56, 3) := by decide +kernel
theorem dX12_tells_114 : decode cX12_tells 114 = .ok (.iload_n 2, 1) := by decide +kernel
theorem dX12_tells_115 : decode cX12_tells 115 = .ok (.iconst (-1), 1) := by decide +kernel
theorem dX12_tells_116 : decode cX12_tells 116 = .ok (.iastore, 1) := by decide +kernel
theorem dX12_tells_117 : decode cX12_tells 117 = .ok (.aload_n 0, 1) := by decide +kernel
theorem dX12_tells_118 : decode cX12_tells 118 = .ok (.getfield 65, 3) := by decide +kernel
theorem dX12_tells_121 : decode cX12_tells 121 = .ok (.iload_n 2, 1) := by decide +kernel
theorem dX12_tells_122 : decode cX12_tells 122 = .ok (.iload_n 3, 1) := by decide +kernel
theorem dX12_tells_123 : decode cX12_tells 123 = .ok (.iastore, 1) := by decide +kernel
theorem dX12_tells_124 : decode cX12_tells 124 = .ok (.aload_n 0, 1) := by decide +kernel
theorem dX12_tells_125 : decode cX12_tells 125 = .ok (.getfield 68, 3) := by decide +kernel
theorem dX12_tells_128 : decode cX12_tells 128 = .ok (.iload_n 2, 1) := by decide +kernel
theorem dX12_tells_129 : decode cX12_tells 129 = .ok (.iload_n 3, 1) := by decide +kernel
theorem dX12_tells_130 : decode cX12_tells 130 = .ok (.iconst 1, 1) := by decide +kernel
theorem dX12_tells_131 : decode cX12_tells 131 = .ok (.if_icmp .ne 7, 3) := by decide +kernel
theorem dX12_tells_134 : decode cX12_tells 134 = .ok (.iconst 4, 1) := by decide +kernel
theorem dX12_tells_135 : decode cX12_tells 135 = .ok (.goto 4, 3) := by decide +kernel
theorem dX12_tells_138 : decode cX12_tells 138 = .ok (.iconst 3, 1) := by decide +kernel
theorem dX12_tells_139 : decode cX12_tells 139 = .ok (.iastore, 1) := by decide +kernel
theorem dX12_tells_140 : decode cX12_tells 140 = .ok (.aload_n 0, 1) := by decide +kernel
theorem dX12_tells_141 : decode cX12_tells 141 = .ok (.getfield 59, 3) := by decide +kernel
