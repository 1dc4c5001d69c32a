theorem dX11_carrySpeech_119 : decode cX11_carrySpeech 119 = .ok (.if_icmp .ge 31, 3) := by decide +kernel
theorem dX11_carrySpeech_122 : decode cX11_carrySpeech 122 = .ok (.aload_n 0, 1) := by decide +kernel
theorem dX11_carrySpeech_123 : decode cX11_carrySpeech 123 = .ok (.getfield 23, 3) := by decide +kernel
theorem dX11_carrySpeech_126 : decode cX11_carrySpeech 126 = .ok (.iload_n 1, 1) := by decide +kernel
theorem dX11_carrySpeech_127 : decode cX11_carrySpeech 127 = .ok (.aaload, 1) := by decide +kernel
theorem dX11_carrySpeech_128 : decode cX11_carrySpeech 128 = .ok (.getfield 210, 3) := by decide +kernel
theorem dX11_carrySpeech_131 : decode cX11_carrySpeech 131 = .ok (.iconst 3, 1) := by decide +kernel
theorem dX11_carrySpeech_132 : decode cX11_carrySpeech 132 = .ok (.if_icmp .ne 12, 3) := by decide +kernel
theorem dX11_carrySpeech_135 : decode cX11_carrySpeech 135 = .ok (.aload_n 0, 1) := by decide +kernel
theorem dX11_carrySpeech_136 : decode cX11_carrySpeech 136 = .ok (.getfield 23, 3) := by decide +kernel
theorem dX11_carrySpeech_139 : decode cX11_carrySpeech 139 = .ok (.iload_n 1, 1) := by decide +kernel
theorem dX11_carrySpeech_140 : decode cX11_carrySpeech 140 = .ok (.aaload, 1) := by decide +kernel
theorem dX11_carrySpeech_141 : decode cX11_carrySpeech 141 = .ok (.invokestatic 561, 3) := by decide +kernel
theorem dX11_carrySpeech_144 : decode cX11_carrySpeech 144 = .ok (.iinc 1 1, 3) := by decide +kernel
theorem dX11_carrySpeech_147 : decode cX11_carrySpeech 147 = .ok (.goto (-33), 3) := by decide +kernel
theorem dX11_carrySpeech_150 : decode cX11_carrySpeech 150 = .ok (.return_, 1) := by decide +kernel
theorem dX11_carryBetweenSides_0 : decode cX11_carryBetweenSides 0 = .ok (.aload_n 0, 1) := by decide +kernel
theorem dX11_carryBetweenSides_1 : decode cX11_carryBetweenSides 1 = .ok (.aload_n 0, 1) := by decide +kernel
theorem dX11_carryBetweenSides_2 : decode cX11_carryBetweenSides 2 = .ok (.getfield 223, 3) := by decide +kernel
theorem dX11_carryBetweenSides_5 : decode cX11_carryBetweenSides 5 = .ok (.aload_n 0, 1) := by decide +kernel
theorem dX11_carryBetweenSides_6 : decode cX11_carryBetweenSides 6 = .ok (.getfield 227, 3) := by decide +kernel
theorem dX11_carryBetweenSides_9 : decode cX11_carryBetweenSides 9 = .ok (.invokestatic 557, 3) := by decide +kernel
theorem dX11_carryBetweenSides_12 : decode cX11_carryBetweenSides 12 = .ok (.istore_n 1, 1) := by decide +kernel
theorem dX11_carryBetweenSides_13 : decode cX11_carryBetweenSides 13 = .ok (.aload_n 0, 1) := by decide +kernel
theorem dX11_carryBetweenSides_14 : decode cX11_carryBetweenSides 14 = .ok (.getfield 234, 3) := by decide +kernel
theorem dX11_carryBetweenSides_17 : decode cX11_carryBetweenSides 17 = .ok (.iconst (-1), 1) := by decide +kernel
theorem dX11_carryBetweenSides_18 : decode cX11_carryBetweenSides 18 = .ok (.if_icmp .eq 60, 3) := by decide +kernel
theorem dX11_carryBetweenSides_21 : decode cX11_carryBetweenSides 21 = .ok (.aload_n 0, 1) := by decide +kernel
theorem dX11_carryBetweenSides_22 : decode cX11_carryBetweenSides 22 = .ok (.getfield 444, 3) := by decide +kernel
theorem dX11_carryBetweenSides_25 : decode cX11_carryBetweenSides 25 = .ok (.getfield 554, 3) := by decide +kernel
theorem dX11_carryBetweenSides_28 : decode cX11_carryBetweenSides 28 = .ok (.aload_n 0, 1) := by decide +kernel
theorem dX11_carryBetweenSides_29 : decode cX11_carryBetweenSides 29 = .ok (.getfield 234, 3) := by decide +kernel
theorem dX11_carryBetweenSides_32 : decode cX11_carryBetweenSides 32 = .ok (.iaload, 1) := by decide +kernel
theorem dX11_carryBetweenSides_33 : decode cX11_carryBetweenSides 33 = .ok (.iload_n 1, 1) := by decide +kernel
theorem dX11_carryBetweenSides_34 : decode cX11_carryBetweenSides 34 = .ok (.isub, 1) := by decide +kernel
theorem dX11_carryBetweenSides_35 : decode cX11_carryBetweenSides 35 = .ok (.istore_n 2, 1) := by decide +kernel
theorem dX11_carryBetweenSides_36 : decode cX11_carryBetweenSides 36 = .ok (.iload_n 2, 1) := by decide +kernel
theorem dX11_carryBetweenSides_37 : decode cX11_carryBetweenSides 37 = .ok (.sipush 8000, 3) := by decide +kernel
theorem dX11_carryBetweenSides_40 : decode cX11_carryBetweenSides 40 = .ok (.if_icmp .le 9, 3) := by decide +kernel
theorem dX11_carryBetweenSides_43 : decode cX11_carryBetweenSides 43 = .ok (.sipush 8000, 3) := by decide +kernel
theorem dX11_carryBetweenSides_46 : decode cX11_carryBetweenSides 46 = .ok (.goto 17, 3) := by decide +kernel
theorem dX11_carryBetweenSides_49 : decode cX11_carryBetweenSides 49 = .ok (.iload_n 2, 1) := by decide +kernel
theorem dX11_carryBetweenSides_50 : decode cX11_carryBetweenSides 50 = .ok (.sipush (-8000), 3) := by decide +kernel
theorem dX11_carryBetweenSides_53 : decode cX11_carryBetweenSides 53 = .ok (.if_icmp .ge 9, 3) := by decide +kernel
theorem dX11_carryBetweenSides_56 : decode cX11_carryBetweenSides 56 = .ok (.sipush (-8000), 3) := by decide +kernel
theorem dX11_carryBetweenSides_59 : decode cX11_carryBetweenSides 59 = .ok (.goto 4, 3) := by decide +kernel
theorem dX11_carryBetweenSides_62 : decode cX11_carryBetweenSides 62 = .ok (.iload_n 2, 1) := by decide +kernel
theorem dX11_carryBetweenSides_63 : decode cX11_carryBetweenSides 63 = .ok (.istore_n 3, 1) := by decide +kernel
theorem dX11_carryBetweenSides_64 : decode cX11_carryBetweenSides 64 = .ok (.aload_n 0, 1) := by decide +kernel
theorem dX11_carryBetweenSides_65 : decode cX11_carryBetweenSides 65 = .ok (.aload_n 0, 1) := by decide +kernel
theorem dX11_carryBetweenSides_66 : decode cX11_carryBetweenSides 66 = .ok (.getfield 223, 3) := by decide +kernel
theorem dX11_carryBetweenSides_69 : decode cX11_carryBetweenSides 69 = .ok (.aload_n 0, 1) := by decide +kernel
theorem dX11_carryBetweenSides_70 : decode cX11_carryBetweenSides 70 = .ok (.getfield 227, 3) := by decide +kernel
theorem dX11_carryBetweenSides_73 : decode cX11_carryBetweenSides 73 = .ok (.iload_n 3, 1) := by decide +kernel
theorem dX11_carryBetweenSides_74 : decode cX11_carryBetweenSides 74 = .ok (.invokestatic 564, 3) := by decide +kernel
theorem dX11_carryBetweenSides_77 : decode cX11_carryBetweenSides 77 = .ok (.return_, 1) := by decide +kernel
theorem dX11_carryBetweenSides_78 : decode cX11_carryBetweenSides 78 = .ok (.aload_n 0, 1) := by decide +kernel
theorem dX11_carryBetweenSides_79 : decode cX11_carryBetweenSides 79 = .ok (.aload_n 0, 1) := by decide +kernel
theorem dX11_carryBetweenSides_80 : decode cX11_carryBetweenSides 80 = .ok (.getfield 223, 3) := by decide +kernel
theorem dX11_carryBetweenSides_83 : decode cX11_carryBetweenSides 83 = .ok (.aload_n 0, 1) := by decide +kernel
theorem dX11_carryBetweenSides_84 : decode cX11_carryBetweenSides 84 = .ok (.getfield 227, 3) := by decide +kernel
theorem dX11_carryBetweenSides_87 : decode cX11_carryBetweenSides 87 = .ok (.aload_n 0, 1) := by decide +kernel
theorem dX11_carryBetweenSides_88 : decode cX11_carryBetweenSides 88 = .ok (.aload_n 0, 1) := by decide +kernel
theorem dX11_carryBetweenSides_89 : decode cX11_carryBetweenSides 89 = .ok (.getfield 237, 3) := by decide +kernel
theorem dX11_carryBetweenSides_92 : decode cX11_carryBetweenSides 92 = .ok (.aload_n 0, 1) := by decide +kernel
theorem dX11_carryBetweenSides_93 : decode cX11_carryBetweenSides 93 = .ok (.getfield 240, 3) := by decide +kernel
theorem dX11_carryBetweenSides_96 : decode cX11_carryBetweenSides 96 = .ok (.invokestatic 557, 3) := by decide +kernel
theorem dX11_carryBetweenSides_99 : decode cX11_carryBetweenSides 99 = .ok (.invokestatic 564, 3) := by decide +kernel
theorem dX11_carryBetweenSides_102 : decode cX11_carryBetweenSides 102 = .ok (.aload_n 0, 1) := by decide +kernel
theorem dX11_carryBetweenSides_103 : decode cX11_carryBetweenSides 103 = .ok (.aload_n 0, 1) := by decide +kernel
theorem dX11_carryBetweenSides_104 : decode cX11_carryBetweenSides 104 = .ok (.getfield 237, 3) := by decide +kernel
theorem dX11_carryBetweenSides_107 : decode cX11_carryBetweenSides 107 = .ok (.aload_n 0, 1) := by decide +kernel
theorem dX11_carryBetweenSides_108 : decode cX11_carryBetweenSides 108 = .ok (.getfield 240, 3) := by decide +kernel
theorem dX11_carryBetweenSides_111 : decode cX11_carryBetweenSides 111 = .ok (.iload_n 1, 1) := by decide +kernel
theorem dX11_carryBetweenSides_112 : decode cX11_carryBetweenSides 112 = .ok (.invokestatic 564, 3) := by decide +kernel
theorem dX11_carryBetweenSides_115 : decode cX11_carryBetweenSides 115 = .ok (.return_, 1) := by decide +kernel
theorem dX11_given_0 : decode cX11_given 0 = .ok (.aload_n 1, 1) := by decide +kernel
theorem dX11_given_1 : decode cX11_given 1 = .ok (.ifnull 30, 3) := by decide +kernel
theorem dX11_given_4 : decode cX11_given 4 = .ok (.aload_n 1, 1) := by decide +kernel
theorem dX11_given_5 : decode cX11_given 5 = .ok (.getfield 206, 3) := by decide +kernel
theorem dX11_given_8 : decode cX11_given 8 = .ok (.aload_n 0, 1) := by decide +kernel
theorem dX11_given_9 : decode cX11_given 9 = .ok (.if_acmp .ne 20, 3) := by decide +kernel
theorem dX11_given_12 : decode cX11_given 12 = .ok (.aload_n 1, 1) := by decide +kernel
theorem dX11_given_13 : decode cX11_given 13 = .ok (.getfield 317, 3) := by decide +kernel
theorem dX11_given_16 : decode cX11_given 16 = .ok (.bipush 8, 2) := by decide +kernel
theorem dX11_given_18 : decode cX11_given 18 = .ok (.idiv, 1) := by decide +kernel
theorem dX11_given_19 : decode cX11_given 19 = .ok (.aload_n 1, 1) := by decide +kernel
theorem dX11_given_20 : decode cX11_given 20 = .ok (.getfield 167, 3) := by decide +kernel
theorem dX11_given_23 : decode cX11_given 23 = .ok (.invokestatic 567, 3) := by decide +kernel
theorem dX11_given_26 : decode cX11_given 26 = .ok (.goto 4, 3) := by decide +kernel
theorem dX11_given_29 : decode cX11_given 29 = .ok (.iconst 0, 1) := by decide +kernel
theorem dX11_given_30 : decode cX11_given 30 = .ok (.ireturn, 1) := by decide +kernel
theorem dX11_given_31 : decode cX11_given 31 = .ok (.aload_n 2, 1) := by decide +kernel
theorem dX11_given_32 : decode cX11_given 32 = .ok (.ifnull 23, 3) := by decide +kernel
theorem dX11_given_35 : decode cX11_given 35 = .ok (.aload_n 2, 1) := by decide +kernel
theorem dX11_given_36 : decode cX11_given 36 = .ok (.getfield 69, 3) := by decide +kernel
theorem dX11_given_39 : decode cX11_given 39 = .ok (.ifnull 16, 3) := by decide +kernel
theorem dX11_given_42 : decode cX11_given 42 = .ok (.aload_n 2, 1) := by decide +kernel
theorem dX11_given_43 : decode cX11_given 43 = .ok (.getfield 69, 3) := by decide +kernel
theorem dX11_given_46 : decode cX11_given 46 = .ok (.getfield 570, 3) := by decide +kernel
theorem dX11_given_49 : decode cX11_given 49 = .ok (.invokestatic 573, 3) := by decide +kernel
theorem dX11_given_52 : decode cX11_given 52 = .ok (.goto 4, 3) := by decide +kernel
theorem dX11_given_55 : decode cX11_given 55 = .ok (.iconst 0, 1) := by decide +kernel
theorem dX11_given_56 : decode cX11_given 56 = .ok (.ireturn, 1) := by decide +kernel
theorem dX11_hand_0 : decode cX11_hand 0 = .ok (.aload_n 1, 1) := by decide +kernel
theorem dX11_hand_1 : decode cX11_hand 1 = .ok (.ifnull 26, 3) := by decide +kernel
theorem dX11_hand_4 : decode cX11_hand 4 = .ok (.aload_n 1, 1) := by decide +kernel
theorem dX11_hand_5 : decode cX11_hand 5 = .ok (.getfield 206, 3) := by decide +kernel
theorem dX11_hand_8 : decode cX11_hand 8 = .ok (.aload_n 0, 1) := by decide +kernel
theorem dX11_hand_9 : decode cX11_hand 9 = .ok (.if_acmp .ne 18, 3) := by decide +kernel
theorem dX11_hand_12 : decode cX11_hand 12 = .ok (.aload_n 1, 1) := by decide +kernel
theorem dX11_hand_13 : decode cX11_hand 13 = .ok (.aload_n 1, 1) := by decide +kernel
theorem dX11_hand_14 : decode cX11_hand 14 = .ok (.getfield 317, 3) := by decide +kernel
theorem dX11_hand_17 : decode cX11_hand 17 = .ok (.bipush 8, 2) := by decide +kernel
theorem dX11_hand_19 : decode cX11_hand 19 = .ok (.idiv, 1) := by decide +kernel
theorem dX11_hand_20 : decode cX11_hand 20 = .ok (.iload_n 3, 1) := by decide +kernel
theorem dX11_hand_21 : decode cX11_hand 21 = .ok (.invokestatic 567, 3) := by decide +kernel
theorem dX11_hand_24 : decode cX11_hand 24 = .ok (.putfield 243, 3) := by decide +kernel
theorem dX11_hand_27 : decode cX11_hand 27 = .ok (.aload_n 2, 1) := by decide +kernel
theorem dX11_hand_28 : decode cX11_hand 28 = .ok (.ifnull 11, 3) := by decide +kernel
theorem dX11_hand_31 : decode cX11_hand 31 = .ok (.aload_n 2, 1) := by decide +kernel
theorem dX11_hand_32 : decode cX11_hand 32 = .ok (.iload_n 3, 1) := by decide +kernel
theorem dX11_hand_33 : decode cX11_hand 33 = .ok (.invokestatic 577, 3) := by decide +kernel
theorem dX11_hand_36 : decode cX11_hand 36 = .ok (.putfield 251, 3) := by decide +kernel
theorem dX11_hand_39 : decode cX11_hand 39 = .ok (.return_, 1) := by decide +kernel
theorem dX11_asHeard_0 : decode cX11_asHeard 0 = .ok (.iload_n 0, 1) := by decide +kernel
theorem dX11_asHeard_1 : decode cX11_asHeard 1 = .ok (.ifCond .ne 13, 3) := by decide +kernel
theorem dX11_asHeard_4 : decode cX11_asHeard 4 = .ok (.iload_n 1, 1) := by decide +kernel
theorem dX11_asHeard_5 : decode cX11_asHeard 5 = .ok (.invokestatic 577, 3) := by decide +kernel
theorem dX11_asHeard_8 : decode cX11_asHeard 8 = .ok (.invokestatic 573, 3) := by decide +kernel
theorem dX11_asHeard_11 : decode cX11_asHeard 11 = .ok (.goto 10, 3) := by decide +kernel
theorem dX11_asHeard_14 : decode cX11_asHeard 14 = .ok (.iload_n 1, 1) := by decide +kernel
theorem dX11_asHeard_15 : decode cX11_asHeard 15 = .ok (.invokestatic 580, 3) := by decide +kernel
theorem dX11_asHeard_18 : decode cX11_asHeard 18 = .ok (.invokestatic 583, 3) := by decide +kernel
theorem dX11_asHeard_21 : decode cX11_asHeard 21 = .ok (.ireturn, 1) := by decide +kernel
theorem dX11_byLaw0_0 : decode cX11_byLaw0 0 = .ok (.iload_n 0, 1) := by decide +kernel
theorem dX11_byLaw0_1 : decode cX11_byLaw0 1 = .ok (.ifCond .ge 8, 3) := by decide +kernel
theorem dX11_byLaw0_4 : decode cX11_byLaw0 4 = .ok (.iload_n 0, 1) := by decide +kernel
theorem dX11_byLaw0_5 : decode cX11_byLaw0 5 = .ok (.ineg, 1) := by decide +kernel
theorem dX11_byLaw0_6 : decode cX11_byLaw0 6 = .ok (.goto 4, 3) := by decide +kernel
theorem dX11_byLaw0_9 : decode cX11_byLaw0 9 = .ok (.iload_n 0, 1) := by decide +kernel
theorem dX11_byLaw0_10 : decode cX11_byLaw0 10 = .ok (.iconst 2, 1) := by decide +kernel
theorem dX11_byLaw0_11 : decode cX11_byLaw0 11 = .ok (.idiv, 1) := by decide +kernel
theorem dX11_byLaw0_12 : decode cX11_byLaw0 12 = .ok (.istore_n 1, 1) := by decide +kernel
theorem dX11_byLaw0_13 : decode cX11_byLaw0 13 = .ok (.iconst 0, 1) := by decide +kernel
theorem dX11_byLaw0_14 : decode cX11_byLaw0 14 = .ok (.istore_n 2, 1) := by decide +kernel
theorem dX11_byLaw0_15 : decode cX11_byLaw0 15 = .ok (.iload_n 2, 1) := by decide +kernel
theorem dX11_byLaw0_16 : decode cX11_byLaw0 16 = .ok (.bipush 7, 2) := by decide +kernel
theorem dX11_byLaw0_18 : decode cX11_byLaw0 18 = .ok (.if_icmp .ge 17, 3) := by decide +kernel
theorem dX11_byLaw0_21 : decode cX11_byLaw0 21 = .ok (.iload_n 1, 1) := by decide +kernel
theorem dX11_byLaw0_22 : decode cX11_byLaw0 22 = .ok (.iload_n 2, 1) := by decide +kernel
theorem dX11_byLaw0_23 : decode cX11_byLaw0 23 = .ok (.iconst 5, 1) := by decide +kernel
theorem dX11_byLaw0_24 : decode cX11_byLaw0 24 = .ok (.iadd, 1) := by decide +kernel
theorem dX11_byLaw0_25 : decode cX11_byLaw0 25 = .ok (.ishr, 1) := by decide +kernel
theorem dX11_byLaw0_26 : decode cX11_byLaw0 26 = .ok (.ifCond .eq 9, 3) := by decide +kernel
theorem dX11_byLaw0_29 : decode cX11_byLaw0 29 = .ok (.iinc 2 1, 3) := by decide +kernel
theorem dX11_byLaw0_32 : decode cX11_byLaw0 32 = .ok (.goto (-17), 3) := by decide +kernel
theorem dX11_byLaw0_35 : decode cX11_byLaw0 35 = .ok (.iload_n 2, 1) := by decide +kernel
theorem dX11_byLaw0_36 : decode cX11_byLaw0 36 = .ok (.ifCond .ne 9, 3) := by decide +kernel
theorem dX11_byLaw0_39 : decode cX11_byLaw0 39 = .ok (.iload_n 1, 1) := by decide +kernel
theorem dX11_byLaw0_40 : decode cX11_byLaw0 40 = .ok (.iconst 2, 1) := by decide +kernel
theorem dX11_byLaw0_41 : decode cX11_byLaw0 41 = .ok (.idiv, 1) := by decide +kernel
theorem dX11_byLaw0_42 : decode cX11_byLaw0 42 = .ok (.goto 9, 3) := by decide +kernel
theorem dX11_byLaw0_45 : decode cX11_byLaw0 45 = .ok (.iload_n 1, 1) := by decide +kernel
theorem dX11_byLaw0_46 : decode cX11_byLaw0 46 = .ok (.iload_n 2, 1) := by decide +kernel
theorem dX11_byLaw0_47 : decode cX11_byLaw0 47 = .ok (.ishr, 1) := by decide +kernel
theorem dX11_byLaw0_48 : decode cX11_byLaw0 48 = .ok (.bipush 15, 2) := by decide +kernel
theorem dX11_byLaw0_50 : decode cX11_byLaw0 50 = .ok (.iand, 1) := by decide +kernel
theorem dX11_byLaw0_51 : decode cX11_byLaw0 51 = .ok (.istore_n 3, 1) := by decide +kernel
theorem dX11_byLaw0_52 : decode cX11_byLaw0 52 = .ok (.iload_n 0, 1) := by decide +kernel
theorem dX11_byLaw0_53 : decode cX11_byLaw0 53 = .ok (.ifCond .ge 7, 3) := by decide +kernel
theorem dX11_byLaw0_56 : decode cX11_byLaw0 56 = .ok (.iconst 0, 1) := by decide +kernel
theorem dX11_byLaw0_57 : decode cX11_byLaw0 57 = .ok (.goto 6, 3) := by decide +kernel
theorem dX11_byLaw0_60 : decode cX11_byLaw0 60 = .ok (.sipush 128, 3) := by decide +kernel
theorem dX11_byLaw0_63 : decode cX11_byLaw0 63 = .ok (.bipush 16, 2) := by decide +kernel
theorem dX11_byLaw0_65 : decode cX11_byLaw0 65 = .ok (.iload_n 2, 1) := by decide +kernel
theorem dX11_byLaw0_66 : decode cX11_byLaw0 66 = .ok (.imul, 1) := by decide +kernel
theorem dX11_byLaw0_67 : decode cX11_byLaw0 67 = .ok (.iadd, 1) := by decide +kernel
theorem dX11_byLaw0_68 : decode cX11_byLaw0 68 = .ok (.iload_n 3, 1) := by decide +kernel
theorem dX11_byLaw0_69 : decode cX11_byLaw0 69 = .ok (.iadd, 1) := by decide +kernel
theorem dX11_byLaw0_70 : decode cX11_byLaw0 70 = .ok (.bipush 85, 2) := by decide +kernel
theorem dX11_byLaw0_72 : decode cX11_byLaw0 72 = .ok (.ixor, 1) := by decide +kernel
theorem dX11_byLaw0_73 : decode cX11_byLaw0 73 = .ok (.ireturn, 1) := by decide +kernel
theorem dX11_fromLaw0_0 : decode cX11_fromLaw0 0 = .ok (.iload_n 0, 1) := by decide +kernel
theorem dX11_fromLaw0_1 : decode cX11_fromLaw0 1 = .ok (.bipush 85, 2) := by decide +kernel
theorem dX11_fromLaw0_3 : decode cX11_fromLaw0 3 = .ok (.ixor, 1) := by decide +kernel
theorem dX11_fromLaw0_4 : decode cX11_fromLaw0 4 = .ok (.istore_n 1, 1) := by decide +kernel
theorem dX11_fromLaw0_5 : decode cX11_fromLaw0 5 = .ok (.iload_n 1, 1) := by decide +kernel
theorem dX11_fromLaw0_6 : decode cX11_fromLaw0 6 = .ok (.bipush 16, 2) := by decide +kernel
theorem dX11_fromLaw0_8 : decode cX11_fromLaw0 8 = .ok (.idiv, 1) := by decide +kernel
theorem dX11_fromLaw0_9 : decode cX11_fromLaw0 9 = .ok (.bipush 7, 2) := by decide +kernel
theorem dX11_fromLaw0_11 : decode cX11_fromLaw0 11 = .ok (.iand, 1) := by decide +kernel
theorem dX11_fromLaw0_12 : decode cX11_fromLaw0 12 = .ok (.istore_n 2, 1) := by decide +kernel
theorem dX11_fromLaw0_13 : decode cX11_fromLaw0 13 = .ok (.iload_n 1, 1) := by decide +kernel
theorem dX11_fromLaw0_14 : decode cX11_fromLaw0 14 = .ok (.bipush 15, 2) := by decide +kernel
theorem dX11_fromLaw0_16 : decode cX11_fromLaw0 16 = .ok (.iand, 1) := by decide +kernel
theorem dX11_fromLaw0_17 : decode cX11_fromLaw0 17 = .ok (.istore_n 3, 1) := by decide +kernel
theorem dX11_fromLaw0_18 : decode cX11_fromLaw0 18 = .ok (.iload_n 2, 1) := by decide +kernel
theorem dX11_fromLaw0_19 : decode cX11_fromLaw0 19 = .ok (.ifCond .ne 13, 3) := by decide +kernel
theorem dX11_fromLaw0_22 : decode cX11_fromLaw0 22 = .ok (.iconst 2, 1) := by decide +kernel
theorem dX11_fromLaw0_23 : decode cX11_fromLaw0 23 = .ok (.iconst 2, 1) := by decide +kernel
theorem dX11_fromLaw0_24 : decode cX11_fromLaw0 24 = .ok (.iload_n 3, 1) := by decide +kernel
theorem dX11_fromLaw0_25 : decode cX11_fromLaw0 25 = .ok (.imul, 1) := by decide +kernel
theorem dX11_fromLaw0_26 : decode cX11_fromLaw0 26 = .ok (.iconst 1, 1) := by decide +kernel
theorem dX11_fromLaw0_27 : decode cX11_fromLaw0 27 = .ok (.iadd, 1) := by decide +kernel
theorem dX11_fromLaw0_28 : decode cX11_fromLaw0 28 = .ok (.imul, 1) := by decide +kernel
theorem dX11_fromLaw0_29 : decode cX11_fromLaw0 29 = .ok (.goto 15, 3) := by decide +kernel
theorem dX11_fromLaw0_32 : decode cX11_fromLaw0 32 = .ok (.iconst 2, 1) := by decide +kernel
theorem dX11_fromLaw0_33 : decode cX11_fromLaw0 33 = .ok (.iconst 2, 1) := by decide +kernel
theorem dX11_fromLaw0_34 : decode cX11_fromLaw0 34 = .ok (.iload_n 3, 1) := by decide +kernel
theorem dX11_fromLaw0_35 : decode cX11_fromLaw0 35 = .ok (.imul, 1) := by decide +kernel
theorem dX11_fromLaw0_36 : decode cX11_fromLaw0 36 = .ok (.bipush 33, 2) := by decide +kernel
theorem dX11_fromLaw0_38 : decode cX11_fromLaw0 38 = .ok (.iadd, 1) := by decide +kernel
theorem dX11_fromLaw0_39 : decode cX11_fromLaw0 39 = .ok (.iload_n 2, 1) := by decide +kernel
theorem dX11_fromLaw0_40 : decode cX11_fromLaw0 40 = .ok (.iconst 1, 1) := by decide +kernel
theorem dX11_fromLaw0_41 : decode cX11_fromLaw0 41 = .ok (.isub, 1) := by decide +kernel
theorem dX11_fromLaw0_42 : decode cX11_fromLaw0 42 = .ok (.ishl, 1) := by decide +kernel
theorem dX11_fromLaw0_43 : decode cX11_fromLaw0 43 = .ok (.imul, 1) := by decide +kernel
theorem dX11_fromLaw0_44 : decode cX11_fromLaw0 44 = .ok (.istore 4, 2) := by decide +kernel
theorem dX11_fromLaw0_46 : decode cX11_fromLaw0 46 = .ok (.iload_n 1, 1) := by decide +kernel
theorem dX11_fromLaw0_47 : decode cX11_fromLaw0 47 = .ok (.sipush 128, 3) := by decide +kernel
theorem dX11_fromLaw0_50 : decode cX11_fromLaw0 50 = .ok (.if_icmp .ge 9, 3) := by decide +kernel
theorem dX11_fromLaw0_53 : decode cX11_fromLaw0 53 = .ok (.iload 4, 2) := by decide +kernel
theorem dX11_fromLaw0_55 : decode cX11_fromLaw0 55 = .ok (.ineg, 1) := by decide +kernel
theorem dX11_fromLaw0_56 : decode cX11_fromLaw0 56 = .ok (.goto 5, 3) := by decide +kernel
theorem dX11_fromLaw0_59 : decode cX11_fromLaw0 59 = .ok (.iload 4, 2) := by decide +kernel
theorem dX11_fromLaw0_61 : decode cX11_fromLaw0 61 = .ok (.ireturn, 1) := by decide +kernel
theorem dX11_byLaw1_0 : decode cX11_byLaw1 0 = .ok (.iload_n 0, 1) := by decide +kernel
theorem dX11_byLaw1_1 : decode cX11_byLaw1 1 = .ok (.ifCond .ge 8, 3) := by decide +kernel
theorem dX11_byLaw1_4 : decode cX11_byLaw1 4 = .ok (.iload_n 0, 1) := by decide +kernel
theorem dX11_byLaw1_5 : decode cX11_byLaw1 5 = .ok (.ineg, 1) := by decide +kernel
theorem dX11_byLaw1_6 : decode cX11_byLaw1 6 = .ok (.goto 4, 3) := by decide +kernel
theorem dX11_byLaw1_9 : decode cX11_byLaw1 9 = .ok (.iload_n 0, 1) := by decide +kernel
theorem dX11_byLaw1_10 : decode cX11_byLaw1 10 = .ok (.istore_n 1, 1) := by decide +kernel
theorem dX11_byLaw1_11 : decode cX11_byLaw1 11 = .ok (.iload_n 1, 1) := by decide +kernel
theorem dX11_byLaw1_12 : decode cX11_byLaw1 12 = .ok (.sipush 8158, 3) := by decide +kernel
theorem dX11_byLaw1_15 : decode cX11_byLaw1 15 = .ok (.if_icmp .ge 7, 3) := by decide +kernel
theorem dX11_byLaw1_18 : decode cX11_byLaw1 18 = .ok (.iload_n 1, 1) := by decide +kernel
theorem dX11_byLaw1_19 : decode cX11_byLaw1 19 = .ok (.goto 6, 3) := by decide +kernel
theorem dX11_byLaw1_22 : decode cX11_byLaw1 22 = .ok (.sipush 8158, 3) := by decide +kernel
theorem dX11_byLaw1_25 : decode cX11_byLaw1 25 = .ok (.bipush 33, 2) := by decide +kernel
theorem dX11_byLaw1_27 : decode cX11_byLaw1 27 = .ok (.iadd, 1) := by decide +kernel
theorem dX11_byLaw1_28 : decode cX11_byLaw1 28 = .ok (.istore_n 2, 1) := by decide +kernel
theorem dX11_byLaw1_29 : decode cX11_byLaw1 29 = .ok (.iconst 0, 1) := by decide +kernel
theorem dX11_byLaw1_30 : decode cX11_byLaw1 30 = .ok (.istore_n 3, 1) := by decide +kernel
theorem dX11_byLaw1_31 : decode cX11_byLaw1 31 = .ok (.iload_n 3, 1) := by decide +kernel
theorem dX11_byLaw1_32 : decode cX11_byLaw1 32 = .ok (.bipush 7, 2) := by decide +kernel
theorem dX11_byLaw1_34 : decode cX11_byLaw1 34 = .ok (.if_icmp .ge 18, 3) := by decide +kernel
theorem dX11_byLaw1_37 : decode cX11_byLaw1 37 = .ok (.iload_n 2, 1) := by decide +kernel
theorem dX11_byLaw1_38 : decode cX11_byLaw1 38 = .ok (.iload_n 3, 1) := by decide +kernel
theorem dX11_byLaw1_39 : decode cX11_byLaw1 39 = .ok (.bipush 6, 2) := by decide +kernel
theorem dX11_byLaw1_41 : decode cX11_byLaw1 41 = .ok (.iadd, 1) := by decide +kernel
theorem dX11_byLaw1_42 : decode cX11_byLaw1 42 = .ok (.ishr, 1) := by decide +kernel
theorem dX11_byLaw1_43 : decode cX11_byLaw1 43 = .ok (.ifCond .eq 9, 3) := by decide +kernel
theorem dX11_byLaw1_46 : decode cX11_byLaw1 46 = .ok (.iinc 3 1, 3) := by decide +kernel
theorem dX11_byLaw1_49 : decode cX11_byLaw1 49 = .ok (.goto (-18), 3) := by decide +kernel
theorem dX11_byLaw1_52 : decode cX11_byLaw1 52 = .ok (.sipush 255, 3) := by decide +kernel
theorem dX11_byLaw1_55 : decode cX11_byLaw1 55 = .ok (.iload_n 0, 1) := by decide +kernel
theorem dX11_byLaw1_56 : decode cX11_byLaw1 56 = .ok (.ifCond .ge 9, 3) := by decide +kernel
theorem dX11_byLaw1_59 : decode cX11_byLaw1 59 = .ok (.sipush 128, 3) := by decide +kernel
theorem dX11_byLaw1_62 : decode cX11_byLaw1 62 = .ok (.goto 4, 3) := by decide +kernel
theorem dX11_byLaw1_65 : decode cX11_byLaw1 65 = .ok (.iconst 0, 1) := by decide +kernel
theorem dX11_byLaw1_66 : decode cX11_byLaw1 66 = .ok (.isub, 1) := by decide +kernel
theorem dX11_byLaw1_67 : decode cX11_byLaw1 67 = .ok (.bipush 16, 2) := by decide +kernel
theorem dX11_byLaw1_69 : decode cX11_byLaw1 69 = .ok (.iload_n 3, 1) := by decide +kernel
theorem dX11_byLaw1_70 : decode cX11_byLaw1 70 = .ok (.imul, 1) := by decide +kernel
theorem dX11_byLaw1_71 : decode cX11_byLaw1 71 = .ok (.isub, 1) := by decide +kernel
theorem dX11_byLaw1_72 : decode cX11_byLaw1 72 = .ok (.iload_n 2, 1) := by decide +kernel
theorem dX11_byLaw1_73 : decode cX11_byLaw1 73 = .ok (.iload_n 3, 1) := by decide +kernel
theorem dX11_byLaw1_74 : decode cX11_byLaw1 74 = .ok (.iconst 1, 1) := by decide +kernel
theorem dX11_byLaw1_75 : decode cX11_byLaw1 75 = .ok (.iadd, 1) := by decide +kernel
theorem dX11_byLaw1_76 : decode cX11_byLaw1 76 = .ok (.ishr, 1) := by decide +kernel
theorem dX11_byLaw1_77 : decode cX11_byLaw1 77 = .ok (.bipush 15, 2) := by decide +kernel
theorem dX11_byLaw1_79 : decode cX11_byLaw1 79 = .ok (.iand, 1) := by decide +kernel
theorem dX11_byLaw1_80 : decode cX11_byLaw1 80 = .ok (.isub, 1) := by decide +kernel
theorem dX11_byLaw1_81 : decode cX11_byLaw1 81 = .ok (.ireturn, 1) := by decide +kernel
theorem dX11_fromLaw1_0 : decode cX11_fromLaw1 0 = .ok (.sipush 255, 3) := by decide +kernel
theorem dX11_fromLaw1_3 : decode cX11_fromLaw1 3 = .ok (.iload_n 0, 1) := by decide +kernel
theorem dX11_fromLaw1_4 : decode cX11_fromLaw1 4 = .ok (.isub, 1) := by decide +kernel
theorem dX11_fromLaw1_5 : decode cX11_fromLaw1 5 = .ok (.istore_n 1, 1) := by decide +kernel
theorem dX11_fromLaw1_6 : decode cX11_fromLaw1 6 = .ok (.iload_n 1, 1) := by decide +kernel
theorem dX11_fromLaw1_7 : decode cX11_fromLaw1 7 = .ok (.bipush 16, 2) := by decide +kernel
theorem dX11_fromLaw1_9 : decode cX11_fromLaw1 9 = .ok (.idiv, 1) := by decide +kernel
theorem dX11_fromLaw1_10 : decode cX11_fromLaw1 10 = .ok (.bipush 7, 2) := by decide +kernel
theorem dX11_fromLaw1_12 : decode cX11_fromLaw1 12 = .ok (.iand, 1) := by decide +kernel
theorem dX11_fromLaw1_13 : decode cX11_fromLaw1 13 = .ok (.istore_n 2, 1) := by decide +kernel
theorem dX11_fromLaw1_14 : decode cX11_fromLaw1 14 = .ok (.iconst 2, 1) := by decide +kernel
theorem dX11_fromLaw1_15 : decode cX11_fromLaw1 15 = .ok (.iload_n 1, 1) := by decide +kernel
theorem dX11_fromLaw1_16 : decode cX11_fromLaw1 16 = .ok (.bipush 15, 2) := by decide +kernel
theorem dX11_fromLaw1_18 : decode cX11_fromLaw1 18 = .ok (.iand, 1) := by decide +kernel
theorem dX11_fromLaw1_19 : decode cX11_fromLaw1 19 = .ok (.imul, 1) := by decide +kernel
theorem dX11_fromLaw1_20 : decode cX11_fromLaw1 20 = .ok (.bipush 33, 2) := by decide +kernel
theorem dX11_fromLaw1_22 : decode cX11_fromLaw1 22 = .ok (.iadd, 1) := by decide +kernel
theorem dX11_fromLaw1_23 : decode cX11_fromLaw1 23 = .ok (.iload_n 2, 1) := by decide +kernel
theorem dX11_fromLaw1_24 : decode cX11_fromLaw1 24 = .ok (.ishl, 1) := by decide +kernel
theorem dX11_fromLaw1_25 : decode cX11_fromLaw1 25 = .ok (.bipush 33, 2) := by decide +kernel
theorem dX11_fromLaw1_27 : decode cX11_fromLaw1 27 = .ok (.isub, 1) := by decide +kernel
theorem dX11_fromLaw1_28 : decode cX11_fromLaw1 28 = .ok (.istore_n 3, 1) := by decide +kernel
theorem dX11_fromLaw1_29 : decode cX11_fromLaw1 29 = .ok (.iload_n 1, 1) := by decide +kernel
theorem dX11_fromLaw1_30 : decode cX11_fromLaw1 30 = .ok (.bipush 127, 2) := by decide +kernel
theorem dX11_fromLaw1_32 : decode cX11_fromLaw1 32 = .ok (.if_icmp .le 8, 3) := by decide +kernel
theorem dX11_fromLaw1_35 : decode cX11_fromLaw1 35 = .ok (.iload_n 3, 1) := by decide +kernel
theorem dX11_fromLaw1_36 : decode cX11_fromLaw1 36 = .ok (.ineg, 1) := by decide +kernel
theorem dX11_fromLaw1_37 : decode cX11_fromLaw1 37 = .ok (.goto 4, 3) := by decide +kernel
theorem dX11_fromLaw1_40 : decode cX11_fromLaw1 40 = .ok (.iload_n 3, 1) := by decide +kernel
theorem dX11_fromLaw1_41 : decode cX11_fromLaw1 41 = .ok (.ireturn, 1) := by decide +kernel
theorem dX11_sendUnits_0 : decode cX11_sendUnits 0 = .ok (.iconst 0, 1) := by decide +kernel
theorem dX11_sendUnits_1 : decode cX11_sendUnits 1 = .ok (.istore_n 1, 1) := by decide +kernel
theorem dX11_sendUnits_2 : decode cX11_sendUnits 2 = .ok (.iload_n 1, 1) := by decide +kernel
theorem dX11_sendUnits_3 : decode cX11_sendUnits 3 = .ok (.iconst 2, 1) := by decide +kernel
theorem dX11_sendUnits_4 : decode cX11_sendUnits 4 = .ok (.if_icmp .ge 166, 3) := by decide +kernel
theorem dX11_sendUnits_7 : decode cX11_sendUnits 7 = .ok (.aload_n 0, 1) := by decide +kernel
theorem dX11_sendUnits_8 : decode cX11_sendUnits 8 = .ok (.getfield 11, 3) := by decide +kernel
theorem dX11_sendUnits_11 : decode cX11_sendUnits 11 = .ok (.iload_n 1, 1) := by decide +kernel
theorem dX11_sendUnits_12 : decode cX11_sendUnits 12 = .ok (.aaload, 1) := by decide +kernel
theorem dX11_sendUnits_13 : decode cX11_sendUnits 13 = .ok (.getfield 261, 3) := by decide +kernel
theorem dX11_sendUnits_16 : decode cX11_sendUnits 16 = .ok (.astore_n 2, 1) := by decide +kernel
theorem dX11_sendUnits_17 : decode cX11_sendUnits 17 = .ok (.aload_n 2, 1) := by decide +kernel
theorem dX11_sendUnits_18 : decode cX11_sendUnits 18 = .ok (.getfield 288, 3) := by decide +kernel
theorem dX11_sendUnits_21 : decode cX11_sendUnits 21 = .ok (.aload_n 0, 1) := by decide +kernel
theorem dX11_sendUnits_22 : decode cX11_sendUnits 22 = .ok (.getfield 177, 3) := by decide +kernel
theorem dX11_sendUnits_25 : decode cX11_sendUnits 25 = .ok (.bipush 64, 2) := by decide +kernel
theorem dX11_sendUnits_27 : decode cX11_sendUnits 27 = .ok (.irem, 1) := by decide +kernel
theorem dX11_sendUnits_28 : decode cX11_sendUnits 28 = .ok (.aaload, 1) := by decide +kernel
theorem dX11_sendUnits_29 : decode cX11_sendUnits 29 = .ok (.astore_n 3, 1) := by decide +kernel
theorem dX11_sendUnits_30 : decode cX11_sendUnits 30 = .ok (.aload_n 2, 1) := by decide +kernel
theorem dX11_sendUnits_31 : decode cX11_sendUnits 31 = .ok (.aload_n 3, 1) := by decide +kernel
theorem dX11_sendUnits_32 : decode cX11_sendUnits 32 = .ok (.invokevirtual 586, 3) := by decide +kernel
theorem dX11_sendUnits_35 : decode cX11_sendUnits 35 = .ok (.aload_n 2, 1) := by decide +kernel
theorem dX11_sendUnits_36 : decode cX11_sendUnits 36 = .ok (.getfield 323, 3) := by decide +kernel
theorem dX11_sendUnits_39 : decode cX11_sendUnits 39 = .ok (.aload_n 0, 1) := by decide +kernel
theorem dX11_sendUnits_40 : decode cX11_sendUnits 40 = .ok (.getfield 177, 3) := by decide +kernel
theorem dX11_sendUnits_43 : decode cX11_sendUnits 43 = .ok (.iconst 1, 1) := by decide +kernel
theorem dX11_sendUnits_44 : decode cX11_sendUnits 44 = .ok (.iand, 1) := by decide +kernel
theorem dX11_sendUnits_45 : decode cX11_sendUnits 45 = .ok (.aaload, 1) := by decide +kernel
theorem dX11_sendUnits_46 : decode cX11_sendUnits 46 = .ok (.astore 4, 2) := by decide +kernel
theorem dX11_sendUnits_48 : decode cX11_sendUnits 48 = .ok (.aload 4, 2) := by decide +kernel
theorem dX11_sendUnits_50 : decode cX11_sendUnits 50 = .ok (.aload_n 3, 1) := by decide +kernel
theorem dX11_sendUnits_51 : decode cX11_sendUnits 51 = .ok (.invokevirtual 589, 3) := by decide +kernel
theorem dX11_sendUnits_54 : decode cX11_sendUnits 54 = .ok (.aload_n 0, 1) := by decide +kernel
theorem dX11_sendUnits_55 : decode cX11_sendUnits 55 = .ok (.getfield 37, 3) := by decide +kernel
theorem dX11_sendUnits_58 : decode cX11_sendUnits 58 = .ok (.iload_n 1, 1) := by decide +kernel
theorem dX11_sendUnits_59 : decode cX11_sendUnits 59 = .ok (.aload_n 0, 1) := by decide +kernel
theorem dX11_sendUnits_60 : decode cX11_sendUnits 60 = .ok (.getfield 177, 3) := by decide +kernel
theorem dX11_sendUnits_63 : decode cX11_sendUnits 63 = .ok (.invokevirtual 592, 3) := by decide +kernel
theorem dX11_sendUnits_66 : decode cX11_sendUnits 66 = .ok (.ifCond .eq 65, 3) := by decide +kernel
theorem dX11_sendUnits_69 : decode cX11_sendUnits 69 = .ok (.aload_n 0, 1) := by decide +kernel
theorem dX11_sendUnits_70 : decode cX11_sendUnits 70 = .ok (.getfield 47, 3) := by decide +kernel
theorem dX11_sendUnits_73 : decode cX11_sendUnits 73 = .ok (.aload_n 3, 1) := by decide +kernel
theorem dX11_sendUnits_74 : decode cX11_sendUnits 74 = .ok (.invokevirtual 292, 3) := by decide +kernel
theorem dX11_sendUnits_77 : decode cX11_sendUnits 77 = .ok (.aload_n 0, 1) := by decide +kernel
theorem dX11_sendUnits_78 : decode cX11_sendUnits 78 = .ok (.getfield 37, 3) := by decide +kernel
theorem dX11_sendUnits_81 : decode cX11_sendUnits 81 = .ok (.iload_n 1, 1) := by decide +kernel
theorem dX11_sendUnits_82 : decode cX11_sendUnits 82 = .ok (.aload_n 0, 1) := by decide +kernel
theorem dX11_sendUnits_83 : decode cX11_sendUnits 83 = .ok (.getfield 177, 3) := by decide +kernel
theorem dX11_sendUnits_86 : decode cX11_sendUnits 86 = .ok (.aload_n 0, 1) := by decide +kernel
theorem dX11_sendUnits_87 : decode cX11_sendUnits 87 = .ok (.getfield 47, 3) := by decide +kernel
theorem dX11_sendUnits_90 : decode cX11_sendUnits 90 = .ok (.invokevirtual 595, 3) := by decide +kernel
theorem dX11_sendUnits_93 : decode cX11_sendUnits 93 = .ok (.aload_n 0, 1) := by decide +kernel
theorem dX11_sendUnits_94 : decode cX11_sendUnits 94 = .ok (.getfield 37, 3) := by decide +kernel
theorem dX11_sendUnits_97 : decode cX11_sendUnits 97 = .ok (.iload_n 1, 1) := by decide +kernel
theorem dX11_sendUnits_98 : decode cX11_sendUnits 98 = .ok (.aload_n 0, 1) := by decide +kernel
theorem dX11_sendUnits_99 : decode cX11_sendUnits 99 = .ok (.getfield 177, 3) := by decide +kernel
theorem dX11_sendUnits_102 : decode cX11_sendUnits 102 = .ok (.invokevirtual 598, 3) := by decide +kernel
theorem dX11_sendUnits_105 : decode cX11_sendUnits 105 = .ok (.aload 4, 2) := by decide +kernel
theorem dX11_sendUnits_107 : decode cX11_sendUnits 107 = .ok (.aload_n 0, 1) := by decide +kernel
theorem dX11_sendUnits_108 : decode cX11_sendUnits 108 = .ok (.getfield 47, 3) := by decide +kernel
theorem dX11_sendUnits_111 : decode cX11_sendUnits 111 = .ok (.aload 4, 2) := by decide +kernel
theorem dX11_sendUnits_113 : decode cX11_sendUnits 113 = .ok (.aload_n 0, 1) := by decide +kernel
theorem dX11_sendUnits_114 : decode cX11_sendUnits 114 = .ok (.getfield 55, 3) := by decide +kernel
theorem dX11_sendUnits_117 : decode cX11_sendUnits 117 = .ok (.invokevirtual 601, 3) := by decide +kernel
theorem dX11_sendUnits_120 : decode cX11_sendUnits 120 = .ok (.ifCond .eq 7, 3) := by decide +kernel
theorem dX11_sendUnits_123 : decode cX11_sendUnits 123 = .ok (.iconst 0, 1) := by decide +kernel
theorem dX11_sendUnits_124 : decode cX11_sendUnits 124 = .ok (.goto 4, 3) := by decide +kernel
theorem dX11_sendUnits_127 : decode cX11_sendUnits 127 = .ok (.iconst 1, 1) := by decide +kernel
theorem dX11_sendUnits_128 : decode cX11_sendUnits 128 = .ok (.putfield 604, 3) := by decide +kernel
theorem dX11_sendUnits_131 : decode cX11_sendUnits 131 = .ok (.aload_n 0, 1) := by decide +kernel
theorem dX11_sendUnits_132 : decode cX11_sendUnits 132 = .ok (.getfield 41, 3) := by decide +kernel
theorem dX11_sendUnits_135 : decode cX11_sendUnits 135 = .ok (.iload_n 1, 1) := by decide +kernel
theorem dX11_sendUnits_136 : decode cX11_sendUnits 136 = .ok (.aload_n 0, 1) := by decide +kernel
theorem dX11_sendUnits_137 : decode cX11_sendUnits 137 = .ok (.getfield 177, 3) := by decide +kernel
theorem dX11_sendUnits_140 : decode cX11_sendUnits 140 = .ok (.invokevirtual 592, 3) := by decide +kernel
theorem dX11_sendUnits_143 : decode cX11_sendUnits 143 = .ok (.ifCond .eq 21, 3) := by decide +kernel
theorem dX11_sendUnits_146 : decode cX11_sendUnits 146 = .ok (.aload_n 0, 1) := by decide +kernel
theorem dX11_sendUnits_147 : decode cX11_sendUnits 147 = .ok (.getfield 41, 3) := by decide +kernel
theorem dX11_sendUnits_150 : decode cX11_sendUnits 150 = .ok (.iload_n 1, 1) := by decide +kernel
theorem dX11_sendUnits_151 : decode cX11_sendUnits 151 = .ok (.aload_n 0, 1) := by decide +kernel
theorem dX11_sendUnits_152 : decode cX11_sendUnits 152 = .ok (.getfield 177, 3) := by decide +kernel
theorem dX11_sendUnits_155 : decode cX11_sendUnits 155 = .ok (.invokevirtual 598, 3) := by decide +kernel
theorem dX11_sendUnits_158 : decode cX11_sendUnits 158 = .ok (.aload 4, 2) := by decide +kernel
theorem dX11_sendUnits_160 : decode cX11_sendUnits 160 = .ok (.iconst 2, 1) := by decide +kernel
theorem dX11_sendUnits_161 : decode cX11_sendUnits 161 = .ok (.putfield 604, 3) := by decide +kernel
theorem dX11_sendUnits_164 : decode cX11_sendUnits 164 = .ok (.iinc 1 1, 3) := by decide +kernel
theorem dX11_sendUnits_167 : decode cX11_sendUnits 167 = .ok (.goto (-165), 3) := by decide +kernel
theorem dX11_sendUnits_170 : decode cX11_sendUnits 170 = .ok (.return_, 1) := by decide +kernel
theorem dX12_init_0 : decode cX12_init 0 = .ok (.aload_n 0, 1) := by decide +kernel
theorem dX12_init_1 : decode cX12_init 1 = .ok (.invokespecial 1, 3) := by decide +kernel
theorem dX12_init_4 : decode cX12_init 4 = .ok (.aload_n 0, 1) := by decide +kernel
theorem dX12_init_5 : decode cX12_init 5 = .ok (.bipush 12, 2) := by decide +kernel
theorem dX12_init_7 : decode cX12_init 7 = .ok (.newarray .int, 2) := by decide +kernel
theorem dX12_init_9 : decode cX12_init 9 = .ok (.putfield 9, 3) := by decide +kernel
theorem dX12_init_12 : decode cX12_init 12 = .ok (.aload_n 0, 1) := by decide +kernel
theorem dX12_init_13 : decode cX12_init 13 = .ok (.iconst 2, 1) := by decide +kernel
theorem dX12_init_14 : decode cX12_init 14 = .ok (.newarray .int, 2) := by decide +kernel
theorem dX12_init_16 : decode cX12_init 16 = .ok (.putfield 13, 3) := by decide +kernel
theorem dX12_init_19 : decode cX12_init 19 = .ok (.aload_n 0, 1) := by decide +kernel
theorem dX12_init_20 : decode cX12_init 20 = .ok (.sipush 576, 3) := by decide +kernel
theorem dX12_init_23 : decode cX12_init 23 = .ok (.newarray .int, 2) := by decide +kernel
theorem dX12_init_25 : decode cX12_init 25 = .ok (.putfield 16, 3) := by decide +kernel
theorem dX12_init_28 : decode cX12_init 28 = .ok (.aload_n 0, 1) := by decide +kernel
theorem dX12_init_29 : decode cX12_init 29 = .ok (.bipush 48, 2) := by decide +kernel
theorem dX12_init_31 : decode cX12_init 31 = .ok (.newarray .int, 2) := by decide +kernel
theorem dX12_init_33 : decode cX12_init 33 = .ok (.putfield 19, 3) := by decide +kernel
theorem dX12_init_36 : decode cX12_init 36 = .ok (.aload_n 0, 1) := by decide +kernel
theorem dX12_init_37 : decode cX12_init 37 = .ok (.bipush 48, 2) := by decide +kernel
theorem dX12_init_39 : decode cX12_init 39 = .ok (.newarray .int, 2) := by decide +kernel
theorem dX12_init_41 : decode cX12_init 41 = .ok (.putfield 22, 3) := by decide +kernel
theorem dX12_init_44 : decode cX12_init 44 = .ok (.aload_n 0, 1) := by decide +kernel
theorem dX12_init_45 : decode cX12_init 45 = .ok (.bipush 48, 2) := by decide +kernel
theorem dX12_init_47 : decode cX12_init 47 = .ok (.newarray .int, 2) := by decide +kernel
theorem dX12_init_49 : decode cX12_init 49 = .ok (.putfield 25, 3) := by decide +kernel
theorem dX12_init_52 : decode cX12_init 52 = .ok (.aload_n 0, 1) := by decide +kernel
theorem dX12_init_53 : decode cX12_init 53 = .ok (.bipush 48, 2) := by decide +kernel
theorem dX12_init_55 : decode cX12_init 55 = .ok (.newarray .int, 2) := by decide +kernel
theorem dX12_init_57 : decode cX12_init 57 = .ok (.putfield 28, 3) := by decide +kernel
theorem dX12_init_60 : decode cX12_init 60 = .ok (.aload_n 0, 1) := by decide +kernel
theorem dX12_init_61 : decode cX12_init 61 = .ok (.bipush 48, 2) := by decide +kernel
theorem dX12_init_63 : decode cX12_init 63 = .ok (.newarray .int, 2) := by decide +kernel
theorem dX12_init_65 : decode cX12_init 65 = .ok (.putfield 31, 3) := by decide +kernel
theorem dX12_init_68 : decode cX12_init 68 = .ok (.aload_n 0, 1) := by decide +kernel
theorem dX12_init_69 : decode cX12_init 69 = .ok (.bipush 16, 2) := by decide +kernel
theorem dX12_init_71 : decode cX12_init 71 = .ok (.newarray .boolean, 2) := by decide +kernel
theorem dX12_init_73 : decode cX12_init 73 = .ok (.putfield 34, 3) := by decide +kernel
theorem dX12_init_76 : decode cX12_init 76 = .ok (.aload_n 0, 1) := by decide +kernel
theorem dX12_init_77 : decode cX12_init 77 = .ok (.bipush 16, 2) := by decide +kernel
theorem dX12_init_79 : decode cX12_init 79 = .ok (.newarray .boolean, 2) := by decide +kernel
theorem dX12_init_81 : decode cX12_init 81 = .ok (.putfield 38, 3) := by decide +kernel
theorem dX12_init_84 : decode cX12_init 84 = .ok (.aload_n 0, 1) := by decide +kernel
theorem dX12_init_85 : decode cX12_init 85 = .ok (.bipush 16, 2) := by decide +kernel
theorem dX12_init_87 : decode cX12_init 87 = .ok (.newarray .int, 2) := by decide +kernel
theorem dX12_init_89 : decode cX12_init 89 = .ok (.putfield 41, 3) := by decide +kernel
theorem dX12_init_92 : decode cX12_init 92 = .ok (.aload_n 0, 1) := by decide +kernel
theorem dX12_init_93 : decode cX12_init 93 = .ok (.bipush 16, 2) := by decide +kernel
theorem dX12_init_95 : decode cX12_init 95 = .ok (.newarray .int, 2) := by decide +kernel
theorem dX12_init_97 : decode cX12_init 97 = .ok (.putfield 44, 3) := by decide +kernel
theorem dX12_init_100 : decode cX12_init 100 = .ok (.aload_n 0, 1) := by decide +kernel
theorem dX12_init_101 : decode cX12_init 101 = .ok (.bipush 16, 2) := by decide +kernel
theorem dX12_init_103 : decode cX12_init 103 = .ok (.newarray .int, 2) := by decide +kernel
theorem dX12_init_105 : decode cX12_init 105 = .ok (.putfield 47, 3) := by decide +kernel
theorem dX12_init_108 : decode cX12_init 108 = .ok (.aload_n 0, 1) := by decide +kernel
theorem dX12_init_109 : decode cX12_init 109 = .ok (.sipush 320, 3) := by decide +kernel
theorem dX12_init_112 : decode cX12_init 112 = .ok (.newarray .int, 2) := by decide +kernel
theorem dX12_init_114 : decode cX12_init 114 = .ok (.putfield 50, 3) := by decide +kernel
theorem dX12_init_117 : decode cX12_init 117 = .ok (.aload_n 0, 1) := by decide +kernel
theorem dX12_init_118 : decode cX12_init 118 = .ok (.bipush 16, 2) := by decide +kernel
theorem dX12_init_120 : decode cX12_init 120 = .ok (.newarray .int, 2) := by decide +kernel
theorem dX12_init_122 : decode cX12_init 122 = .ok (.putfield 53, 3) := by decide +kernel
theorem dX12_init_125 : decode cX12_init 125 = .ok (.aload_n 0, 1) := by decide +kernel
theorem dX12_init_126 : decode cX12_init 126 = .ok (.bipush 16, 2) := by decide +kernel
theorem dX12_init_128 : decode cX12_init 128 = .ok (.newarray .int, 2) := by decide +kernel
theorem dX12_init_130 : decode cX12_init 130 = .ok (.putfield 56, 3) := by decide +kernel
theorem dX12_init_133 : decode cX12_init 133 = .ok (.aload_n 0, 1) := by decide +kernel
theorem dX12_init_134 : decode cX12_init 134 = .ok (.bipush 16, 2) := by decide +kernel
theorem dX12_init_136 : decode cX12_init 136 = .ok (.newarray .int, 2) := by decide +kernel
theorem dX12_init_138 : decode cX12_init 138 = .ok (.putfield 59, 3) := by decide +kernel
theorem dX12_init_141 : decode cX12_init 141 = .ok (.aload_n 0, 1) := by decide +kernel
theorem dX12_init_142 : decode cX12_init 142 = .ok (.bipush 16, 2) := by decide +kernel
theorem dX12_init_144 : decode cX12_init 144 = .ok (.newarray .int, 2) := by decide +kernel
theorem dX12_init_146 : decode cX12_init 146 = .ok (.putfield 62, 3) := by decide +kernel
theorem dX12_init_149 : decode cX12_init 149 = .ok (.aload_n 0, 1) := by decide +kernel
theorem dX12_init_150 : decode cX12_init 150 = .ok (.bipush 16, 2) := by decide +kernel
theorem dX12_init_152 : decode cX12_init 152 = .ok (.newarray .int, 2) := by decide +kernel
theorem dX12_init_154 : decode cX12_init 154 = .ok (.putfield 65, 3) := by decide +kernel
theorem dX12_init_157 : decode cX12_init 157 = .ok (.aload_n 0, 1) := by decide +kernel
theorem dX12_init_158 : decode cX12_init 158 = .ok (.bipush 16, 2) := by decide +kernel
theorem dX12_init_160 : decode cX12_init 160 = .ok (.newarray .int, 2) := by decide +kernel
theorem dX12_init_162 : decode cX12_init 162 = .ok (.putfield 68, 3) := by decide +kernel
theorem dX12_init_165 : decode cX12_init 165 = .ok (.aload_n 0, 1) := by decide +kernel
theorem dX12_init_166 : decode cX12_init 166 = .ok (.bipush 16, 2) := by decide +kernel
theorem dX12_init_168 : decode cX12_init 168 = .ok (.newarray .boolean, 2) := by decide +kernel
theorem dX12_init_170 : decode cX12_init 170 = .ok (.putfield 71, 3) := by decide +kernel
theorem dX12_init_173 : decode cX12_init 173 = .ok (.aload_n 0, 1) := by decide +kernel
theorem dX12_init_174 : decode cX12_init 174 = .ok (.bipush 16, 2) := by decide +kernel
theorem dX12_init_176 : decode cX12_init 176 = .ok (.newarray .int, 2) := by decide +kernel
theorem dX12_init_178 : decode cX12_init 178 = .ok (.putfield 74, 3) := by decide +kernel
theorem dX12_init_181 : decode cX12_init 181 = .ok (.aload_n 0, 1) := by decide +kernel
theorem dX12_init_182 : decode cX12_init 182 = .ok (.bipush 16, 2) := by decide +kernel
theorem dX12_init_184 : decode cX12_init 184 = .ok (.newarray .int, 2) := by decide +kernel
theorem dX12_init_186 : decode cX12_init 186 = .ok (.putfield 77, 3) := by decide +kernel
theorem dX12_init_189 : decode cX12_init 189 = .ok (.aload_n 0, 1) := by decide +kernel
theorem dX12_init_190 : decode cX12_init 190 = .ok (.bipush 48, 2) := by decide +kernel
theorem dX12_init_192 : decode cX12_init 192 = .ok (.newarray .boolean, 2) := by decide +kernel
theorem dX12_init_194 : decode cX12_init 194 = .ok (.putfield 80, 3) := by decide +kernel
theorem dX12_init_197 : decode cX12_init 197 = .ok (.aload_n 0, 1) := by decide +kernel
theorem dX12_init_198 : decode cX12_init 198 = .ok (.sipush 576, 3) := by decide +kernel
theorem dX12_init_201 : decode cX12_init 201 = .ok (.newarray .int, 2) := by decide +kernel
theorem dX12_init_203 : decode cX12_init 203 = .ok (.putfield 83, 3) := by decide +kernel
theorem dX12_init_206 : decode cX12_init 206 = .ok (.aload_n 0, 1) := by decide +kernel
theorem dX12_init_207 : decode cX12_init 207 = .ok (.bipush 48, 2) := by decide +kernel
theorem dX12_init_209 : decode cX12_init 209 = .ok (.newarray .int, 2) := by decide +kernel
theorem dX12_init_211 : decode cX12_init 211 = .ok (.putfield 86, 3) := by decide +kernel
theorem dX12_init_214 : decode cX12_init 214 = .ok (.aload_n 0, 1) := by decide +kernel
theorem dX12_init_215 : decode cX12_init 215 = .ok (.bipush 16, 2) := by decide +kernel
theorem dX12_init_217 : decode cX12_init 217 = .ok (.newarray .int, 2) := by decide +kernel
theorem dX12_init_219 : decode cX12_init 219 = .ok (.putfield 89, 3) := by decide +kernel
theorem dX12_init_222 : decode cX12_init 222 = .ok (.aload_n 0, 1) := by decide +kernel
theorem dX12_init_223 : decode cX12_init 223 = .ok (.bipush 16, 2) := by decide +kernel
theorem dX12_init_225 : decode cX12_init 225 = .ok (.newarray .int, 2) := by decide +kernel
theorem dX12_init_227 : decode cX12_init 227 = .ok (.putfield 92, 3) := by decide +kernel
theorem dX12_init_230 : decode cX12_init 230 = .ok (.aload_n 0, 1) := by decide +kernel
theorem dX12_init_231 : decode cX12_init 231 = .ok (.bipush 80, 2) := by decide +kernel
theorem dX12_init_233 : decode cX12_init 233 = .ok (.newarray .int, 2) := by decide +kernel
theorem dX12_init_235 : decode cX12_init 235 = .ok (.putfield 95, 3) := by decide +kernel
theorem dX12_init_238 : decode cX12_init 238 = .ok (.aload_n 0, 1) := by decide +kernel
theorem dX12_init_239 : decode cX12_init 239 = .ok (.bipush 80, 2) := by decide +kernel
theorem dX12_init_241 : decode cX12_init 241 = .ok (.newarray .int, 2) := by decide +kernel
theorem dX12_init_243 : decode cX12_init 243 = .ok (.putfield 98, 3) := by decide +kernel
theorem dX12_init_246 : decode cX12_init 246 = .ok (.aload_n 0, 1) := by decide +kernel
theorem dX12_init_247 : decode cX12_init 247 = .ok (.bipush 80, 2) := by decide +kernel
theorem dX12_init_249 : decode cX12_init 249 = .ok (.newarray .int, 2) := by decide +kernel
theorem dX12_init_251 : decode cX12_init 251 = .ok (.putfield 101, 3) := by decide +kernel
theorem dX12_init_254 : decode cX12_init 254 = .ok (.aload_n 0, 1) := by decide +kernel
theorem dX12_init_255 : decode cX12_init 255 = .ok (.bipush 80, 2) := by decide +kernel
theorem dX12_init_257 : decode cX12_init 257 = .ok (.newarray .int, 2) := by decide +kernel
theorem dX12_init_259 : decode cX12_init 259 = .ok (.putfield 104, 3) := by decide +kernel
theorem dX12_init_262 : decode cX12_init 262 = .ok (.aload_n 0, 1) := by decide +kernel
theorem dX12_init_263 : decode cX12_init 263 = .ok (.bipush 80, 2) := by decide +kernel
theorem dX12_init_265 : decode cX12_init 265 = .ok (.newarray .int, 2) := by decide +kernel
theorem dX12_init_267 : decode cX12_init 267 = .ok (.putfield 107, 3) := by decide +kernel
theorem dX12_init_270 : decode cX12_init 270 = .ok (.aload_n 0, 1) := by decide +kernel
theorem dX12_init_271 : decode cX12_init 271 = .ok (.bipush 80, 2) := by decide +kernel
theorem dX12_init_273 : decode cX12_init 273 = .ok (.newarray .int, 2) := by decide +kernel
theorem dX12_init_275 : decode cX12_init 275 = .ok (.putfield 110, 3) := by decide +kernel
theorem dX12_init_278 : decode cX12_init 278 = .ok (.aload_n 0, 1) := by decide +kernel
theorem dX12_init_279 : decode cX12_init 279 = .ok (.sipush 960, 3) := by decide +kernel
theorem dX12_init_282 : decode cX12_init 282 = .ok (.newarray .int, 2) := by decide +kernel
theorem dX12_init_284 : decode cX12_init 284 = .ok (.putfield 113, 3) := by decide +kernel
theorem dX12_init_287 : decode cX12_init 287 = .ok (.aload_n 0, 1) := by decide +kernel
theorem dX12_init_288 : decode cX12_init 288 = .ok (.bipush 80, 2) := by decide +kernel
theorem dX12_init_290 : decode cX12_init 290 = .ok (.newarray .int, 2) := by decide +kernel
theorem dX12_init_292 : decode cX12_init 292 = .ok (.putfield 116, 3) := by decide +kernel
theorem dX12_init_295 : decode cX12_init 295 = .ok (.aload_n 0, 1) := by decide +kernel
theorem dX12_init_296 : decode cX12_init 296 = .ok (.bipush 80, 2) := by decide +kernel
theorem dX12_init_298 : decode cX12_init 298 = .ok (.newarray .int, 2) := by decide +kernel
theorem dX12_init_300 : decode cX12_init 300 = .ok (.putfield 119, 3) := by decide +kernel
theorem dX12_init_303 : decode cX12_init 303 = .ok (.aload_n 0, 1) := by decide +kernel
theorem dX12_init_304 : decode cX12_init 304 = .ok (.bipush 80, 2) := by decide +kernel
theorem dX12_init_306 : decode cX12_init 306 = .ok (.newarray .int, 2) := by decide +kernel
theorem dX12_init_308 : decode cX12_init 308 = .ok (.putfield 122, 3) := by decide +kernel
theorem dX12_init_311 : decode cX12_init 311 = .ok (.aload_n 0, 1) := by decide +kernel
theorem dX12_init_312 : decode cX12_init 312 = .ok (.bipush 80, 2) := by decide +kernel
theorem dX12_init_314 : decode cX12_init 314 = .ok (.newarray .int, 2) := by decide +kernel
theorem dX12_init_316 : decode cX12_init 316 = .ok (.putfield 125, 3) := by decide +kernel
theorem dX12_init_319 : decode cX12_init 319 = .ok (.aload_n 0, 1) := by decide +kernel
theorem dX12_init_320 : decode cX12_init 320 = .ok (.bipush 80, 2) := by decide +kernel
theorem dX12_init_322 : decode cX12_init 322 = .ok (.newarray .int, 2) := by decide +kernel
theorem dX12_init_324 : decode cX12_init 324 = .ok (.putfield 128, 3) := by decide +kernel
theorem dX12_init_327 : decode cX12_init 327 = .ok (.aload_n 0, 1) := by decide +kernel
theorem dX12_init_328 : decode cX12_init 328 = .ok (.bipush 80, 2) := by decide +kernel
theorem dX12_init_330 : decode cX12_init 330 = .ok (.newarray .int, 2) := by decide +kernel
theorem dX12_init_332 : decode cX12_init 332 = .ok (.putfield 131, 3) := by decide +kernel
theorem dX12_init_335 : decode cX12_init 335 = .ok (.aload_n 0, 1) := by decide +kernel
theorem dX12_init_336 : decode cX12_init 336 = .ok (.bipush 80, 2) := by decide +kernel
theorem dX12_init_338 : decode cX12_init 338 = .ok (.newarray .int, 2) := by decide +kernel
theorem dX12_init_340 : decode cX12_init 340 = .ok (.putfield 134, 3) := by decide +kernel
theorem dX12_init_343 : decode cX12_init 343 = .ok (.aload_n 0, 1) := by decide +kernel
theorem dX12_init_344 : decode cX12_init 344 = .ok (.bipush 80, 2) := by decide +kernel
theorem dX12_init_346 : decode cX12_init 346 = .ok (.newarray .int, 2) := by decide +kernel
theorem dX12_init_348 : decode cX12_init 348 = .ok (.putfield 137, 3) := by decide +kernel
theorem dX12_init_351 : decode cX12_init 351 = .ok (.aload_n 0, 1) := by decide +kernel
theorem dX12_init_352 : decode cX12_init 352 = .ok (.bipush 80, 2) := by decide +kernel
theorem dX12_init_354 : decode cX12_init 354 = .ok (.newarray .boolean, 2) := by decide +kernel
theorem dX12_init_356 : decode cX12_init 356 = .ok (.putfield 140, 3) := by decide +kernel
theorem dX12_init_359 : decode cX12_init 359 = .ok (.aload_n 0, 1) := by decide +kernel
theorem dX12_init_360 : decode cX12_init 360 = .ok (.bipush 48, 2) := by decide +kernel
theorem dX12_init_362 : decode cX12_init 362 = .ok (.newarray .int, 2) := by decide +kernel
theorem dX12_init_364 : decode cX12_init 364 = .ok (.putfield 143, 3) := by decide +kernel
theorem dX12_init_367 : decode cX12_init 367 = .ok (.aload_n 0, 1) := by decide +kernel
theorem dX12_init_368 : decode cX12_init 368 = .ok (.bipush 6, 2) := by decide +kernel
theorem dX12_init_370 : decode cX12_init 370 = .ok (.newarray .int, 2) := by decide +kernel
theorem dX12_init_372 : decode cX12_init 372 = .ok (.putfield 146, 3) := by decide +kernel
theorem dX12_init_375 : decode cX12_init 375 = .ok (.aload_n 0, 1) := by decide +kernel
theorem dX12_init_376 : decode cX12_init 376 = .ok (.bipush 6, 2) := by decide +kernel
theorem dX12_init_378 : decode cX12_init 378 = .ok (.newarray .int, 2) := by decide +kernel
theorem dX12_init_380 : decode cX12_init 380 = .ok (.putfield 149, 3) := by decide +kernel
theorem dX12_init_383 : decode cX12_init 383 = .ok (.aload_n 0, 1) := by decide +kernel
theorem dX12_init_384 : decode cX12_init 384 = .ok (.sipush 480, 3) := by decide +kernel
theorem dX12_init_387 : decode cX12_init 387 = .ok (.newarray .int, 2) := by decide +kernel
theorem dX12_init_389 : decode cX12_init 389 = .ok (.putfield 152, 3) := by decide +kernel
theorem dX12_init_392 : decode cX12_init 392 = .ok (.aload_n 0, 1) := by decide +kernel
theorem dX12_init_393 : decode cX12_init 393 = .ok (.bipush 6, 2) := by decide +kernel
theorem dX12_init_395 : decode cX12_init 395 = .ok (.newarray .int, 2) := by decide +kernel
theorem dX12_init_397 : decode cX12_init 397 = .ok (.putfield 155, 3) := by decide +kernel
theorem dX12_init_400 : decode cX12_init 400 = .ok (.aload_n 0, 1) := by decide +kernel
theorem dX12_init_401 : decode cX12_init 401 = .ok (.bipush 32, 2) := by decide +kernel
theorem dX12_init_403 : decode cX12_init 403 = .ok (.newarray .int, 2) := by decide +kernel
theorem dX12_init_405 : decode cX12_init 405 = .ok (.putfield 158, 3) := by decide +kernel
theorem dX12_init_408 : decode cX12_init 408 = .ok (.aload_n 0, 1) := by decide +kernel
theorem dX12_init_409 : decode cX12_init 409 = .ok (.bipush 32, 2) := by decide +kernel
theorem dX12_init_411 : decode cX12_init 411 = .ok (.newarray .int, 2) := by decide +kernel
theorem dX12_init_413 : decode cX12_init 413 = .ok (.putfield 161, 3) := by decide +kernel
theorem dX12_init_416 : decode cX12_init 416 = .ok (.aload_n 0, 1) := by decide +kernel
theorem dX12_init_417 : decode cX12_init 417 = .ok (.bipush 20, 2) := by decide +kernel
theorem dX12_init_419 : decode cX12_init 419 = .ok (.newarray .int, 2) := by decide +kernel
theorem dX12_init_421 : decode cX12_init 421 = .ok (.putfield 164, 3) := by decide +kernel
theorem dX12_init_424 : decode cX12_init 424 = .ok (.aload_n 0, 1) := by decide +kernel
theorem dX12_init_425 : decode cX12_init 425 = .ok (.sipush 8192, 3) := by decide +kernel
theorem dX12_init_428 : decode cX12_init 428 = .ok (.newarray .int, 2) := by decide +kernel
theorem dX12_init_430 : decode cX12_init 430 = .ok (.putfield 167, 3) := by decide +kernel
theorem dX12_init_433 : decode cX12_init 433 = .ok (.aload_n 0, 1) := by decide +kernel
theorem dX12_init_434 : decode cX12_init 434 = .ok (.sipush 512, 3) := by decide +kernel
theorem dX12_init_437 : decode cX12_init 437 = .ok (.newarray .int, 2) := by decide +kernel
theorem dX12_init_439 : decode cX12_init 439 = .ok (.putfield 170, 3) := by decide +kernel
theorem dX12_init_442 : decode cX12_init 442 = .ok (.aload_n 0, 1) := by decide +kernel
theorem dX12_init_443 : decode cX12_init 443 = .ok (.iconst 2, 1) := by decide +kernel
theorem dX12_init_444 : decode cX12_init 444 = .ok (.newarray .int, 2) := by decide +kernel
theorem dX12_init_446 : decode cX12_init 446 = .ok (.putfield 173, 3) := by decide +kernel
theorem dX12_init_449 : decode cX12_init 449 = .ok (.aload_n 0, 1) := by decide +kernel
theorem dX12_init_450 : decode cX12_init 450 = .ok (.iconst 2, 1) := by decide +kernel
theorem dX12_init_451 : decode cX12_init 451 = .ok (.newarray .int, 2) := by decide +kernel
theorem dX12_init_453 : decode cX12_init 453 = .ok (.putfield 176, 3) := by decide +kernel
theorem dX12_init_456 : decode cX12_init 456 = .ok (.aload_n 0, 1) := by decide +kernel
theorem dX12_init_457 : decode cX12_init 457 = .ok (.iconst 2, 1) := by decide +kernel
theorem dX12_init_458 : decode cX12_init 458 = .ok (.newarray .int, 2) := by decide +kernel
theorem dX12_init_460 : decode cX12_init 460 = .ok (.putfield 179, 3) := by decide +kernel
theorem dX12_init_463 : decode cX12_init 463 = .ok (.aload_n 0, 1) := by decide +kernel
theorem dX12_init_464 : decode cX12_init 464 = .ok (.iconst 2, 1) := by decide +kernel
theorem dX12_init_465 : decode cX12_init 465 = .ok (.newarray .int, 2) := by decide +kernel
theorem dX12_init_467 : decode cX12_init 467 = .ok (.putfield 182, 3) := by decide +kernel
theorem dX12_init_470 : decode cX12_init 470 = .ok (.aload_n 0, 1) := by decide +kernel
theorem dX12_init_471 : decode cX12_init 471 = .ok (.iconst 2, 1) := by decide +kernel
theorem dX12_init_472 : decode cX12_init 472 = .ok (.newarray .int, 2) := by decide +kernel
theorem dX12_init_474 : decode cX12_init 474 = .ok (.putfield 185, 3) := by decide +kernel
theorem dX12_init_477 : decode cX12_init 477 = .ok (.aload_n 0, 1) := by decide +kernel
theorem dX12_init_478 : decode cX12_init 478 = .ok (.iconst 2, 1) := by decide +kernel
theorem dX12_init_479 : decode cX12_init 479 = .ok (.newarray .int, 2) := by decide +kernel
theorem dX12_init_481 : decode cX12_init 481 = .ok (.putfield 188, 3) := by decide +kernel
theorem dX12_init_484 : decode cX12_init 484 = .ok (.aload_n 0, 1) := by decide +kernel
theorem dX12_init_485 : decode cX12_init 485 = .ok (.iconst 2, 1) := by decide +kernel
theorem dX12_init_486 : decode cX12_init 486 = .ok (.newarray .int, 2) := by decide +kernel
theorem dX12_init_488 : decode cX12_init 488 = .ok (.putfield 191, 3) := by decide +kernel
theorem dX12_init_491 : decode cX12_init 491 = .ok (.aload_n 0, 1) := by decide +kernel
theorem dX12_init_492 : decode cX12_init 492 = .ok (.iconst 2, 1) := by decide +kernel
theorem dX12_init_493 : decode cX12_init 493 = .ok (.newarray .int, 2) := by decide +kernel
theorem dX12_init_495 : decode cX12_init 495 = .ok (.putfield 194, 3) := by decide +kernel
theorem dX12_init_498 : decode cX12_init 498 = .ok (.aload_n 0, 1) := by decide +kernel
theorem dX12_init_499 : decode cX12_init 499 = .ok (.bipush 64, 2) := by decide +kernel
theorem dX12_init_501 : decode cX12_init 501 = .ok (.newarray .int, 2) := by decide +kernel
theorem dX12_init_503 : decode cX12_init 503 = .ok (.putfield 197, 3) := by decide +kernel
theorem dX12_init_506 : decode cX12_init 506 = .ok (.aload_n 0, 1) := by decide +kernel
theorem dX12_init_507 : decode cX12_init 507 = .ok (.sipush 320, 3) := by decide +kernel
theorem dX12_init_510 : decode cX12_init 510 = .ok (.newarray .int, 2) := by decide +kernel
theorem dX12_init_512 : decode cX12_init 512 = .ok (.putfield 200, 3) := by decide +kernel
theorem dX12_init_515 : decode cX12_init 515 = .ok (.aload_n 0, 1) := by decide +kernel
theorem dX12_init_516 : decode cX12_init 516 = .ok (.ldc 203, 2) := by decide +kernel
theorem dX12_init_518 : decode cX12_init 518 = .ok (.newarray .int, 2) := by decide +kernel
theorem dX12_init_520 : decode cX12_init 520 = .ok (.putfield 204, 3) := by decide +kernel
theorem dX12_init_523 : decode cX12_init 523 = .ok (.aload_n 0, 1) := by decide +kernel
theorem dX12_init_524 : decode cX12_init 524 = .ok (.sipush 128, 3) := by decide +kernel
theorem dX12_init_527 : decode cX12_init 527 = .ok (.newarray .int, 2) := by decide +kernel
theorem dX12_init_529 : decode cX12_init 529 = .ok (.putfield 207, 3) := by decide +kernel
theorem dX12_init_532 : decode cX12_init 532 = .ok (.aload_n 0, 1) := by decide +kernel
theorem dX12_init_533 : decode cX12_init 533 = .ok (.sipush 2560, 3) := by decide +kernel
theorem dX12_init_536 : decode cX12_init 536 = .ok (.newarray .int, 2) := by decide +kernel
theorem dX12_init_538 : decode cX12_init 538 = .ok (.putfield 210, 3) := by decide +kernel
theorem dX12_init_541 : decode cX12_init 541 = .ok (.aload_n 0, 1) := by decide +kernel
theorem dX12_init_542 : decode cX12_init 542 = .ok (.bipush 8, 2) := by decide +kernel
theorem dX12_init_544 : decode cX12_init 544 = .ok (.newarray .int, 2) := by decide +kernel
theorem dX12_init_546 : decode cX12_init 546 = .ok (.putfield 213, 3) := by decide +kernel
theorem dX12_init_549 : decode cX12_init 549 = .ok (.aload_n 0, 1) := by decide +kernel
theorem dX12_init_550 : decode cX12_init 550 = .ok (.sipush 300, 3) := by decide +kernel
theorem dX12_init_553 : decode cX12_init 553 = .ok (.newarray .int, 2) := by decide +kernel
theorem dX12_init_555 : decode cX12_init 555 = .ok (.putfield 216, 3) := by decide +kernel
theorem dX12_init_558 : decode cX12_init 558 = .ok (.aload_n 0, 1) := by decide +kernel
theorem dX12_init_559 : decode cX12_init 559 = .ok (.sipush 300, 3) := by decide +kernel
theorem dX12_init_562 : decode cX12_init 562 = .ok (.newarray .int, 2) := by decide +kernel
theorem dX12_init_564 : decode cX12_init 564 = .ok (.putfield 219, 3) := by decide +kernel
theorem dX12_init_567 : decode cX12_init 567 = .ok (.aload_n 0, 1) := by decide +kernel
theorem dX12_init_568 : decode cX12_init 568 = .ok (.sipush 300, 3) := by decide +kernel
theorem dX12_init_571 : decode cX12_init 571 = .ok (.newarray .int, 2) := by decide +kernel
theorem dX12_init_573 : decode cX12_init 573 = .ok (.putfield 222, 3) := by decide +kernel
theorem dX12_init_576 : decode cX12_init 576 = .ok (.aload_n 0, 1) := by decide +kernel
theorem dX12_init_577 : decode cX12_init 577 = .ok (.sipush 300, 3) := by decide +kernel
theorem dX12_init_580 : decode cX12_init 580 = .ok (.newarray .int, 2) := by decide +kernel
theorem dX12_init_582 : decode cX12_init 582 = .ok (.putfield 225, 3) := by decide +kernel
theorem dX12_init_585 : decode cX12_init 585 = .ok (.aload_n 0, 1) := by decide +kernel
theorem dX12_init_586 : decode cX12_init 586 = .ok (.sipush 300, 3) := by decide +kernel
theorem dX12_init_589 : decode cX12_init 589 = .ok (.newarray .int, 2) := by decide +kernel
theorem dX12_init_591 : decode cX12_init 591 = .ok (.putfield 228, 3) := by decide +kernel
theorem dX12_init_594 : decode cX12_init 594 = .ok (.aload_n 0, 1) := by decide +kernel
theorem dX12_init_595 : decode cX12_init 595 = .ok (.sipush 320, 3) := by decide +kernel
theorem dX12_init_598 : decode cX12_init 598 = .ok (.newarray .int, 2) := by decide +kernel
theorem dX12_init_600 : decode cX12_init 600 = .ok (.putfield 231, 3) := by decide +kernel
theorem dX12_init_603 : decode cX12_init 603 = .ok (.aload_n 0, 1) := by decide +kernel
theorem dX12_init_604 : decode cX12_init 604 = .ok (.bipush 32, 2) := by decide +kernel
theorem dX12_init_606 : decode cX12_init 606 = .ok (.newarray .int, 2) := by decide +kernel
theorem dX12_init_608 : decode cX12_init 608 = .ok (.putfield 234, 3) := by decide +kernel
theorem dX12_init_611 : decode cX12_init 611 = .ok (.aload_n 0, 1) := by decide +kernel
theorem dX12_init_612 : decode cX12_init 612 = .ok (.bipush 32, 2) := by decide +kernel
theorem dX12_init_614 : decode cX12_init 614 = .ok (.newarray .int, 2) := by decide +kernel
theorem dX12_init_616 : decode cX12_init 616 = .ok (.putfield 237, 3) := by decide +kernel
theorem dX12_init_619 : decode cX12_init 619 = .ok (.aload_n 0, 1) := by decide +kernel
theorem dX12_init_620 : decode cX12_init 620 = .ok (.iconst 4, 1) := by decide +kernel
theorem dX12_init_621 : decode cX12_init 621 = .ok (.newarray .int, 2) := by decide +kernel
theorem dX12_init_623 : decode cX12_init 623 = .ok (.putfield 240, 3) := by decide +kernel
theorem dX12_init_626 : decode cX12_init 626 = .ok (.aload_n 0, 1) := by decide +kernel
theorem dX12_init_627 : decode cX12_init 627 = .ok (.iconst 4, 1) := by decide +kernel
theorem dX12_init_628 : decode cX12_init 628 = .ok (.newarray .int, 2) := by decide +kernel
theorem dX12_init_630 : decode cX12_init 630 = .ok (.putfield 243, 3) := by decide +kernel
theorem dX12_init_633 : decode cX12_init 633 = .ok (.aload_n 0, 1) := by decide +kernel
theorem dX12_init_634 : decode cX12_init 634 = .ok (.iconst 4, 1) := by decide +kernel
theorem dX12_init_635 : decode cX12_init 635 = .ok (.newarray .int, 2) := by decide +kernel
theorem dX12_init_637 : decode cX12_init 637 = .ok (.putfield 246, 3) := by decide +kernel
theorem dX12_init_640 : decode cX12_init 640 = .ok (.aload_n 0, 1) := by decide +kernel
theorem dX12_init_641 : decode cX12_init 641 = .ok (.iconst 4, 1) := by decide +kernel
theorem dX12_init_642 : decode cX12_init 642 = .ok (.newarray .int, 2) := by decide +kernel
theorem dX12_init_644 : decode cX12_init 644 = .ok (.putfield 249, 3) := by decide +kernel
theorem dX12_init_647 : decode cX12_init 647 = .ok (.aload_n 0, 1) := by decide +kernel
theorem dX12_init_648 : decode cX12_init 648 = .ok (.sipush 1500, 3) := by decide +kernel
theorem dX12_init_651 : decode cX12_init 651 = .ok (.newarray .int, 2) := by decide +kernel
theorem dX12_init_653 : decode cX12_init 653 = .ok (.putfield 252, 3) := by decide +kernel
theorem dX12_init_656 : decode cX12_init 656 = .ok (.aload_n 0, 1) := by decide +kernel
theorem dX12_init_657 : decode cX12_init 657 = .ok (.iload_n 1, 1) := by decide +kernel
theorem dX12_init_658 : decode cX12_init 658 = .ok (.iconst 1, 1) := by decide +kernel
theorem dX12_init_659 : decode cX12_init 659 = .ok (.if_icmp .ge 7, 3) := by decide +kernel
theorem dX12_init_662 : decode cX12_init 662 = .ok (.iconst 1, 1) := by decide +kernel
theorem dX12_init_663 : decode cX12_init 663 = .ok (.goto 15, 3) := by decide +kernel
theorem dX12_init_666 : decode cX12_init 666 = .ok (.iload_n 1, 1) := by decide +kernel
theorem dX12_init_667 : decode cX12_init 667 = .ok (.bipush 16, 2) := by decide +kernel
theorem dX12_init_669 : decode cX12_init 669 = .ok (.if_icmp .le 8, 3) := by decide +kernel
theorem dX12_init_672 : decode cX12_init 672 = .ok (.bipush 16, 2) := by decide +kernel
theorem dX12_init_674 : decode cX12_init 674 = .ok (.goto 4, 3) := by decide +kernel
theorem dX12_init_677 : decode cX12_init 677 = .ok (.iload_n 1, 1) := by decide +kernel
theorem dX12_init_678 : decode cX12_init 678 = .ok (.putfield 255, 3) := by decide +kernel
theorem dX12_init_681 : decode cX12_init 681 = .ok (.aload_n 0, 1) := by decide +kernel
theorem dX12_init_682 : decode cX12_init 682 = .ok (.iload_n 2, 1) := by decide +kernel
theorem dX12_init_683 : decode cX12_init 683 = .ok (.ifCond .ge 7, 3) := by decide +kernel
theorem dX12_init_686 : decode cX12_init 686 = .ok (.iconst 0, 1) := by decide +kernel
theorem dX12_init_687 : decode cX12_init 687 = .ok (.goto 19, 3) := by decide +kernel
theorem dX12_init_690 : decode cX12_init 690 = .ok (.iload_n 2, 1) := by decide +kernel
theorem dX12_init_691 : decode cX12_init 691 = .ok (.aload_n 0, 1) := by decide +kernel
theorem dX12_init_692 : decode cX12_init 692 = .ok (.getfield 255, 3) := by decide +kernel
theorem dX12_init_695 : decode cX12_init 695 = .ok (.if_icmp .le 10, 3) := by decide +kernel
theorem dX12_init_698 : decode cX12_init 698 = .ok (.aload_n 0, 1) := by decide +kernel
theorem dX12_init_699 : decode cX12_init 699 = .ok (.getfield 255, 3) := by decide +kernel
theorem dX12_init_702 : decode cX12_init 702 = .ok (.goto 4, 3) := by decide +kernel
theorem dX12_init_705 : decode cX12_init 705 = .ok (.iload_n 2, 1) := by decide +kernel
theorem dX12_init_706 : decode cX12_init 706 = .ok (.putfield 259, 3) := by decide +kernel
theorem dX12_init_709 : decode cX12_init 709 = .ok (.iconst 0, 1) := by decide +kernel
theorem dX12_init_710 : decode cX12_init 710 = .ok (.istore_n 3, 1) := by decide +kernel
theorem dX12_init_711 : decode cX12_init 711 = .ok (.iload_n 3, 1) := by decide +kernel
theorem dX12_init_712 : decode cX12_init 712 = .ok (.bipush 16, 2) := by decide +kernel
theorem dX12_init_714 : decode cX12_init 714 = .ok (.if_icmp .ge 37, 3) := by decide +kernel
theorem dX12_init_717 : decode cX12_init 717 = .ok (.aload_n 0, 1) := by decide +kernel
theorem dX12_init_718 : decode cX12_init 718 = .ok (.getfield 56, 3) := by decide +kernel
theorem dX12_init_721 : decode cX12_init 721 = .ok (.iload_n 3, 1) := by decide +kernel
theorem dX12_init_722 : decode cX12_init 722 = .ok (.iconst (-1), 1) := by decide +kernel
theorem dX12_init_723 : decode cX12_init 723 = .ok (.iastore, 1) := by decide +kernel
theorem dX12_init_724 : decode cX12_init 724 = .ok (.aload_n 0, 1) := by decide +kernel
theorem dX12_init_725 : decode cX12_init 725 = .ok (.getfield 59, 3) := by decide +kernel
theorem dX12_init_728 : decode cX12_init 728 = .ok (.iload_n 3, 1) := by decide +kernel
theorem dX12_init_729 : decode cX12_init 729 = .ok (.iconst (-1), 1) := by decide +kernel
theorem dX12_init_730 : decode cX12_init 730 = .ok (.iastore, 1) := by decide +kernel
theorem dX12_init_731 : decode cX12_init 731 = .ok (.aload_n 0, 1) := by decide +kernel
theorem dX12_init_732 : decode cX12_init 732 = .ok (.getfield 62, 3) := by decide +kernel
theorem dX12_init_735 : decode cX12_init 735 = .ok (.iload_n 3, 1) := by decide +kernel
theorem dX12_init_736 : decode cX12_init 736 = .ok (.iconst (-1), 1) := by decide +kernel
theorem dX12_init_737 : decode cX12_init 737 = .ok (.iastore, 1) := by decide +kernel
theorem dX12_init_738 : decode cX12_init 738 = .ok (.aload_n 0, 1) := by decide +kernel
theorem dX12_init_739 : decode cX12_init 739 = .ok (.getfield 77, 3) := by decide +kernel
theorem dX12_init_742 : decode cX12_init 742 = .ok (.iload_n 3, 1) := by decide +kernel
theorem dX12_init_743 : decode cX12_init 743 = .ok (.iconst (-1), 1) := by decide +kernel
theorem dX12_init_744 : decode cX12_init 744 = .ok (.iastore, 1) := by decide +kernel
theorem dX12_init_745 : decode cX12_init 745 = .ok (.iinc 3 1, 3) := by decide +kernel
theorem dX12_init_748 : decode cX12_init 748 = .ok (.goto (-37), 3) := by decide +kernel
theorem dX12_init_751 : decode cX12_init 751 = .ok (.iconst 0, 1) := by decide +kernel
theorem dX12_init_752 : decode cX12_init 752 = .ok (.istore_n 3, 1) := by decide +kernel
theorem dX12_init_753 : decode cX12_init 753 = .ok (.iload_n 3, 1) := by decide +kernel
theorem dX12_init_754 : decode cX12_init 754 = .ok (.bipush 32, 2) := by decide +kernel
theorem dX12_init_756 : decode cX12_init 756 = .ok (.if_icmp .ge 27, 3) := by decide +kernel
theorem dX12_init_759 : decode cX12_init 759 = .ok (.aload_n 0, 1) := by decide +kernel
theorem dX12_init_760 : decode cX12_init 760 = .ok (.getfield 161, 3) := by decide +kernel
theorem dX12_init_763 : decode cX12_init 763 = .ok (.iload_n 3, 1) := by decide +kernel
theorem dX12_init_764 : decode cX12_init 764 = .ok (.iconst (-1), 1) := by decide +kernel
theorem dX12_init_765 : decode cX12_init 765 = .ok (.iastore, 1) := by decide +kernel
theorem dX12_init_766 : decode cX12_init 766 = .ok (.aload_n 0, 1) := by decide +kernel
theorem dX12_init_767 : decode cX12_init 767 = .ok (.getfield 234, 3) := by decide +kernel
theorem dX12_init_770 : decode cX12_init 770 = .ok (.iload_n 3, 1) := by decide +kernel
theorem dX12_init_771 : decode cX12_init 771 = .ok (.iconst 0, 1) := by decide +kernel
theorem dX12_init_772 : decode cX12_init 772 = .ok (.iconst 0, 1) := by decide +kernel
theorem dX12_init_773 : decode cX12_init 773 = .ok (.invokestatic 262, 3) := by decide +kernel
theorem dX12_init_776 : decode cX12_init 776 = .ok (.iastore, 1) := by decide +kernel
theorem dX12_init_777 : decode cX12_init 777 = .ok (.iinc 3 1, 3) := by decide +kernel
theorem dX12_init_780 : decode cX12_init 780 = .ok (.goto (-27), 3) := by decide +kernel
theorem dX12_init_783 : decode cX12_init 783 = .ok (.iconst 0, 1) := by decide +kernel
theorem dX12_init_784 : decode cX12_init 784 = .ok (.istore_n 3, 1) := by decide +kernel
theorem dX12_init_785 : decode cX12_init 785 = .ok (.iload_n 3, 1) := by decide +kernel
theorem dX12_init_786 : decode cX12_init 786 = .ok (.bipush 80, 2) := by decide +kernel
theorem dX12_init_788 : decode cX12_init 788 = .ok (.if_icmp .ge 16, 3) := by decide +kernel
theorem dX12_init_791 : decode cX12_init 791 = .ok (.aload_n 0, 1) := by decide +kernel
theorem dX12_init_792 : decode cX12_init 792 = .ok (.getfield 95, 3) := by decide +kernel
theorem dX12_init_795 : decode cX12_init 795 = .ok (.iload_n 3, 1) := by decide +kernel
theorem dX12_init_796 : decode cX12_init 796 = .ok (.iconst (-1), 1) := by decide +kernel
theorem dX12_init_797 : decode cX12_init 797 = .ok (.iastore, 1) := by decide +kernel
theorem dX12_init_798 : decode cX12_init 798 = .ok (.iinc 3 1, 3) := by decide +kernel
theorem dX12_init_801 : decode cX12_init 801 = .ok (.goto (-16), 3) := by decide +kernel
theorem dX12_init_804 : decode cX12_init 804 = .ok (.iconst 0, 1) := by decide +kernel
theorem dX12_init_805 : decode cX12_init 805 = .ok (.istore_n 3, 1) := by decide +kernel
theorem dX12_init_806 : decode cX12_init 806 = .ok (.iload_n 3, 1) := by decide +kernel
theorem dX12_init_807 : decode cX12_init 807 = .ok (.iconst 4, 1) := by decide +kernel
theorem dX12_init_808 : decode cX12_init 808 = .ok (.if_icmp .ge 17, 3) := by decide +kernel
theorem dX12_init_811 : decode cX12_init 811 = .ok (.aload_n 0, 1) := by decide +kernel
theorem dX12_init_812 : decode cX12_init 812 = .ok (.getfield 243, 3) := by decide +kernel
theorem dX12_init_815 : decode cX12_init 815 = .ok (.iload_n 3, 1) := by decide +kernel
theorem dX12_init_816 : decode cX12_init 816 = .ok (.bipush 100, 2) := by decide +kernel
theorem dX12_init_818 : decode cX12_init 818 = .ok (.iastore, 1) := by decide +kernel
theorem dX12_init_819 : decode cX12_init 819 = .ok (.iinc 3 1, 3) := by decide +kernel
theorem dX12_init_822 : decode cX12_init 822 = .ok (.goto (-16), 3) := by decide +kernel
theorem dX12_init_825 : decode cX12_init 825 = .ok (.aload_n 0, 1) := by decide +kernel
theorem dX12_init_826 : decode cX12_init 826 = .ok (.getfield 188, 3) := by decide +kernel
theorem dX12_init_829 : decode cX12_init 829 = .ok (.iconst 0, 1) := by decide +kernel
theorem dX12_init_830 : decode cX12_init 830 = .ok (.iconst 1, 1) := by decide +kernel
theorem dX12_init_831 : decode cX12_init 831 = .ok (.iastore, 1) := by decide +kernel
theorem dX12_init_832 : decode cX12_init 832 = .ok (.aload_n 0, 1) := by decide +kernel
theorem dX12_init_833 : decode cX12_init 833 = .ok (.getfield 188, 3) := by decide +kernel
theorem dX12_init_836 : decode cX12_init 836 = .ok (.iconst 1, 1) := by decide +kernel
theorem dX12_init_837 : decode cX12_init 837 = .ok (.iconst 1, 1) := by decide +kernel
theorem dX12_init_838 : decode cX12_init 838 = .ok (.iastore, 1) := by decide +kernel
theorem dX12_init_839 : decode cX12_init 839 = .ok (.aload_n 0, 1) := by decide +kernel
theorem dX12_init_840 : decode cX12_init 840 = .ok (.getfield 191, 3) := by decide +kernel
theorem dX12_init_843 : decode cX12_init 843 = .ok (.iconst 0, 1) := by decide +kernel
theorem dX12_init_844 : decode cX12_init 844 = .ok (.iconst 1, 1) := by decide +kernel
theorem dX12_init_845 : decode cX12_init 845 = .ok (.iastore, 1) := by decide +kernel
theorem dX12_init_846 : decode cX12_init 846 = .ok (.aload_n 0, 1) := by decide +kernel
theorem dX12_init_847 : decode cX12_init 847 = .ok (.getfield 191, 3) := by decide +kernel
theorem dX12_init_850 : decode cX12_init 850 = .ok (.iconst 1, 1) := by decide +kernel
theorem dX12_init_851 : decode cX12_init 851 = .ok (.iconst 1, 1) := by decide +kernel
theorem dX12_init_852 : decode cX12_init 852 = .ok (.iastore, 1) := by decide +kernel
theorem dX12_init_853 : decode cX12_init 853 = .ok (.return_, 1) := by decide +kernel
theorem dX12_in_0 : decode cX12_in 0 = .ok (.lload_n 0, 1) := by decide +kernel
theorem dX12_in_1 : decode cX12_in 1 = .ok (.lload_n 2, 1) := by decide +kernel
theorem dX12_in_2 : decode cX12_in 2 = .ok (.lcmp, 1) := by decide +kernel
theorem dX12_in_3 : decode cX12_in 3 = .ok (.ifCond .lt 14, 3) := by decide +kernel
theorem dX12_in_6 : decode cX12_in 6 = .ok (.lload_n 0, 1) := by decide +kernel
theorem dX12_in_7 : decode cX12_in 7 = .ok (.lload 4, 2) := by decide +kernel
theorem dX12_in_9 : decode cX12_in 9 = .ok (.lcmp, 1) := by decide +kernel
theorem dX12_in_10 : decode cX12_in 10 = .ok (.ifCond .gt 7, 3) := by decide +kernel
theorem dX12_in_13 : decode cX12_in 13 = .ok (.iconst 1, 1) := by decide +kernel
theorem dX12_in_14 : decode cX12_in 14 = .ok (.goto 4, 3) := by decide +kernel
theorem dX12_in_17 : decode cX12_in 17 = .ok (.iconst 0, 1) := by decide +kernel
theorem dX12_in_18 : decode cX12_in 18 = .ok (.ireturn, 1) := by decide +kernel
theorem dX12_key_0 : decode cX12_key 0 = .ok (.iload_n 1, 1) := by decide +kernel
theorem dX12_key_1 : decode cX12_key 1 = .ok (.i2l, 1) := by decide +kernel
theorem dX12_key_2 : decode cX12_key 2 = .ok (.lconst 0, 1) := by decide +kernel
theorem dX12_key_3 : decode cX12_key 3 = .ok (.ldc2_w 266, 3) := by decide +kernel
theorem dX12_key_6 : decode cX12_key 6 = .ok (.invokestatic 268, 3) := by decide +kernel
theorem dX12_key_9 : decode cX12_key 9 = .ok (.ifCond .ne 6, 3) := by decide +kernel
theorem dX12_key_12 : decode cX12_key 12 = .ok (.bipush (-2), 2) := by decide +kernel
theorem dX12_key_14 : decode cX12_key 14 = .ok (.ireturn, 1) := by decide +kernel
theorem dX12_key_15 : decode cX12_key 15 = .ok (.aload_n 0, 1) := by decide +kernel
theorem dX12_key_16 : decode cX12_key 16 = .ok (.getfield 272, 3) := by decide +kernel
theorem dX12_key_19 : decode cX12_key 19 = .ok (.bipush 12, 2) := by decide +kernel
theorem dX12_key_21 : decode cX12_key 21 = .ok (.if_icmp .ne 6, 3) := by decide +kernel
theorem dX12_key_24 : decode cX12_key 24 = .ok (.bipush (-3), 2) := by decide +kernel
theorem dX12_key_26 : decode cX12_key 26 = .ok (.ireturn, 1) := by decide +kernel
theorem dX12_key_27 : decode cX12_key 27 = .ok (.aload_n 0, 1) := by decide +kernel
theorem dX12_key_28 : decode cX12_key 28 = .ok (.getfield 9, 3) := by decide +kernel
theorem dX12_key_31 : decode cX12_key 31 = .ok (.aload_n 0, 1) := by decide +kernel
theorem dX12_key_32 : decode cX12_key 32 = .ok (.dup, 1) := by decide +kernel
theorem dX12_key_33 : decode cX12_key 33 = .ok (.getfield 272, 3) := by decide +kernel
theorem dX12_key_36 : decode cX12_key 36 = .ok (.dup_x1, 1) := by decide +kernel
theorem dX12_key_37 : decode cX12_key 37 = .ok (.iconst 1, 1) := by decide +kernel
theorem dX12_key_38 : decode cX12_key 38 = .ok (.iadd, 1) := by decide +kernel
theorem dX12_key_39 : decode cX12_key 39 = .ok (.putfield 272, 3) := by decide +kernel
theorem dX12_key_42 : decode cX12_key 42 = .ok (.iload_n 1, 1) := by decide +kernel
theorem dX12_key_43 : decode cX12_key 43 = .ok (.iastore, 1) := by decide +kernel
theorem dX12_key_44 : decode cX12_key 44 = .ok (.aload_n 0, 1) := by decide +kernel
theorem dX12_key_45 : decode cX12_key 45 = .ok (.getfield 272, 3) := by decide +kernel
theorem dX12_key_48 : decode cX12_key 48 = .ok (.ireturn, 1) := by decide +kernel
theorem dX12_keyless_0 : decode cX12_keyless 0 = .ok (.aload_n 0, 1) := by decide +kernel
theorem dX12_keyless_1 : decode cX12_keyless 1 = .ok (.getfield 272, 3) := by decide +kernel
theorem dX12_keyless_4 : decode cX12_keyless 4 = .ok (.istore_n 1, 1) := by decide +kernel
theorem dX12_keyless_5 : decode cX12_keyless 5 = .ok (.aload_n 0, 1) := by decide +kernel
theorem dX12_keyless_6 : decode cX12_keyless 6 = .ok (.iconst 0, 1) := by decide +kernel
theorem dX12_keyless_7 : decode cX12_keyless 7 = .ok (.putfield 272, 3) := by decide +kernel
theorem dX12_keyless_10 : decode cX12_keyless 10 = .ok (.iload_n 1, 1) := by decide +kernel
theorem dX12_keyless_11 : decode cX12_keyless 11 = .ok (.ireturn, 1) := by decide +kernel
theorem dX12_plan_0 : decode cX12_plan 0 = .ok (.iload_n 1, 1) := by decide +kernel
theorem dX12_plan_1 : decode cX12_plan 1 = .ok (.i2l, 1) := by decide +kernel
theorem dX12_plan_2 : decode cX12_plan 2 = .ok (.lconst 0, 1) := by decide +kernel
theorem dX12_plan_3 : decode cX12_plan 3 = .ok (.lconst 1, 1) := by decide +kernel
theorem dX12_plan_4 : decode cX12_plan 4 = .ok (.invokestatic 268, 3) := by decide +kernel
theorem dX12_plan_7 : decode cX12_plan 7 = .ok (.ifCond .eq 51, 3) := by decide +kernel
theorem dX12_plan_10 : decode cX12_plan 10 = .ok (.aload_n 0, 1) := by decide +kernel
theorem dX12_plan_11 : decode cX12_plan 11 = .ok (.getfield 272, 3) := by decide +kernel
theorem dX12_plan_14 : decode cX12_plan 14 = .ok (.ifCond .eq 44, 3) := by decide +kernel
theorem dX12_plan_17 : decode cX12_plan 17 = .ok (.iload_n 2, 1) := by decide +kernel
theorem dX12_plan_18 : decode cX12_plan 18 = .ok (.i2l, 1) := by decide +kernel
theorem dX12_plan_19 : decode cX12_plan 19 = .ok (.aload_n 0, 1) := by decide +kernel
theorem dX12_plan_20 : decode cX12_plan 20 = .ok (.getfield 272, 3) := by decide +kernel
