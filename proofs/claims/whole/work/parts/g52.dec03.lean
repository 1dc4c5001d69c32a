theorem dX11_heard_8 : decode cX11_heard 8 = .ok (.getfield 17, 3) := by decide +kernel
theorem dX11_heard_11 : decode cX11_heard 11 = .ok (.iload_n 1, 1) := by decide +kernel
theorem dX11_heard_12 : decode cX11_heard 12 = .ok (.aaload, 1) := by decide +kernel
theorem dX11_heard_13 : decode cX11_heard 13 = .ok (.getfield 243, 3) := by decide +kernel
theorem dX11_heard_16 : decode cX11_heard 16 = .ok (.goto 5, 3) := by decide +kernel
theorem dX11_heard_19 : decode cX11_heard 19 = .ok (.bipush (-2), 2) := by decide +kernel
theorem dX11_heard_21 : decode cX11_heard 21 = .ok (.ireturn, 1) := by decide +kernel
theorem dX11_circuit_0 : decode cX11_circuit 0 = .ok (.aload_n 0, 1) := by decide +kernel
theorem dX11_circuit_1 : decode cX11_circuit 1 = .ok (.iload_n 1, 1) := by decide +kernel
theorem dX11_circuit_2 : decode cX11_circuit 2 = .ok (.iload_n 2, 1) := by decide +kernel
theorem dX11_circuit_3 : decode cX11_circuit 3 = .ok (.invokevirtual 246, 3) := by decide +kernel
theorem dX11_circuit_6 : decode cX11_circuit 6 = .ok (.ifCond .eq 20, 3) := by decide +kernel
theorem dX11_circuit_9 : decode cX11_circuit 9 = .ok (.aload_n 0, 1) := by decide +kernel
theorem dX11_circuit_10 : decode cX11_circuit 10 = .ok (.getfield 11, 3) := by decide +kernel
theorem dX11_circuit_13 : decode cX11_circuit 13 = .ok (.iload_n 1, 1) := by decide +kernel
theorem dX11_circuit_14 : decode cX11_circuit 14 = .ok (.aaload, 1) := by decide +kernel
theorem dX11_circuit_15 : decode cX11_circuit 15 = .ok (.getfield 65, 3) := by decide +kernel
theorem dX11_circuit_18 : decode cX11_circuit 18 = .ok (.iload_n 2, 1) := by decide +kernel
theorem dX11_circuit_19 : decode cX11_circuit 19 = .ok (.aaload, 1) := by decide +kernel
theorem dX11_circuit_20 : decode cX11_circuit 20 = .ok (.getfield 250, 3) := by decide +kernel
theorem dX11_circuit_23 : decode cX11_circuit 23 = .ok (.goto 5, 3) := by decide +kernel
theorem dX11_circuit_26 : decode cX11_circuit 26 = .ok (.bipush (-2), 2) := by decide +kernel
theorem dX11_circuit_28 : decode cX11_circuit 28 = .ok (.ireturn, 1) := by decide +kernel
theorem dX11_speech_0 : decode cX11_speech 0 = .ok (.aload_n 0, 1) := by decide +kernel
theorem dX11_speech_1 : decode cX11_speech 1 = .ok (.iload_n 1, 1) := by decide +kernel
theorem dX11_speech_2 : decode cX11_speech 2 = .ok (.iload_n 2, 1) := by decide +kernel
theorem dX11_speech_3 : decode cX11_speech 3 = .ok (.invokevirtual 246, 3) := by decide +kernel
theorem dX11_speech_6 : decode cX11_speech 6 = .ok (.ifCond .eq 20, 3) := by decide +kernel
theorem dX11_speech_9 : decode cX11_speech 9 = .ok (.aload_n 0, 1) := by decide +kernel
theorem dX11_speech_10 : decode cX11_speech 10 = .ok (.getfield 11, 3) := by decide +kernel
theorem dX11_speech_13 : decode cX11_speech 13 = .ok (.iload_n 1, 1) := by decide +kernel
theorem dX11_speech_14 : decode cX11_speech 14 = .ok (.aaload, 1) := by decide +kernel
theorem dX11_speech_15 : decode cX11_speech 15 = .ok (.getfield 65, 3) := by decide +kernel
theorem dX11_speech_18 : decode cX11_speech 18 = .ok (.iload_n 2, 1) := by decide +kernel
theorem dX11_speech_19 : decode cX11_speech 19 = .ok (.aaload, 1) := by decide +kernel
theorem dX11_speech_20 : decode cX11_speech 20 = .ok (.getfield 251, 3) := by decide +kernel
theorem dX11_speech_23 : decode cX11_speech 23 = .ok (.goto 5, 3) := by decide +kernel
theorem dX11_speech_26 : decode cX11_speech 26 = .ok (.bipush (-2), 2) := by decide +kernel
theorem dX11_speech_28 : decode cX11_speech 28 = .ok (.ireturn, 1) := by decide +kernel
theorem dX11_group_0 : decode cX11_group 0 = .ok (.iload_n 1, 1) := by decide +kernel
theorem dX11_group_1 : decode cX11_group 1 = .ok (.invokestatic 91, 3) := by decide +kernel
theorem dX11_group_4 : decode cX11_group 4 = .ok (.ifCond .eq 21, 3) := by decide +kernel
theorem dX11_group_7 : decode cX11_group 7 = .ok (.iload_n 2, 1) := by decide +kernel
theorem dX11_group_8 : decode cX11_group 8 = .ok (.iconst 0, 1) := by decide +kernel
theorem dX11_group_9 : decode cX11_group 9 = .ok (.iconst 2, 1) := by decide +kernel
theorem dX11_group_10 : decode cX11_group 10 = .ok (.invokestatic 79, 3) := by decide +kernel
theorem dX11_group_13 : decode cX11_group 13 = .ok (.ifCond .eq 12, 3) := by decide +kernel
theorem dX11_group_16 : decode cX11_group 16 = .ok (.iload_n 3, 1) := by decide +kernel
theorem dX11_group_17 : decode cX11_group 17 = .ok (.iconst 0, 1) := by decide +kernel
theorem dX11_group_18 : decode cX11_group 18 = .ok (.iconst 1, 1) := by decide +kernel
theorem dX11_group_19 : decode cX11_group 19 = .ok (.invokestatic 79, 3) := by decide +kernel
theorem dX11_group_22 : decode cX11_group 22 = .ok (.ifCond .ne 6, 3) := by decide +kernel
theorem dX11_group_25 : decode cX11_group 25 = .ok (.bipush (-2), 2) := by decide +kernel
theorem dX11_group_27 : decode cX11_group 27 = .ok (.ireturn, 1) := by decide +kernel
theorem dX11_group_28 : decode cX11_group 28 = .ok (.aload_n 0, 1) := by decide +kernel
theorem dX11_group_29 : decode cX11_group 29 = .ok (.getfield 11, 3) := by decide +kernel
theorem dX11_group_32 : decode cX11_group 32 = .ok (.iload_n 1, 1) := by decide +kernel
theorem dX11_group_33 : decode cX11_group 33 = .ok (.aaload, 1) := by decide +kernel
theorem dX11_group_34 : decode cX11_group 34 = .ok (.getfield 118, 3) := by decide +kernel
theorem dX11_group_37 : decode cX11_group 37 = .ok (.iload_n 2, 1) := by decide +kernel
theorem dX11_group_38 : decode cX11_group 38 = .ok (.aaload, 1) := by decide +kernel
theorem dX11_group_39 : decode cX11_group 39 = .ok (.astore 4, 2) := by decide +kernel
theorem dX11_group_41 : decode cX11_group 41 = .ok (.iload_n 3, 1) := by decide +kernel
theorem dX11_group_42 : decode cX11_group 42 = .ok (.ifCond .ne 11, 3) := by decide +kernel
theorem dX11_group_45 : decode cX11_group 45 = .ok (.aload 4, 2) := by decide +kernel
theorem dX11_group_47 : decode cX11_group 47 = .ok (.getfield 254, 3) := by decide +kernel
theorem dX11_group_50 : decode cX11_group 50 = .ok (.goto 8, 3) := by decide +kernel
theorem dX11_group_53 : decode cX11_group 53 = .ok (.aload 4, 2) := by decide +kernel
theorem dX11_group_55 : decode cX11_group 55 = .ok (.getfield 122, 3) := by decide +kernel
theorem dX11_group_58 : decode cX11_group 58 = .ok (.ireturn, 1) := by decide +kernel
theorem dX11_room_0 : decode cX11_room 0 = .ok (.iload_n 1, 1) := by decide +kernel
theorem dX11_room_1 : decode cX11_room 1 = .ok (.invokestatic 91, 3) := by decide +kernel
theorem dX11_room_4 : decode cX11_room 4 = .ok (.ifCond .eq 12, 3) := by decide +kernel
theorem dX11_room_7 : decode cX11_room 7 = .ok (.iload_n 2, 1) := by decide +kernel
theorem dX11_room_8 : decode cX11_room 8 = .ok (.iconst 0, 1) := by decide +kernel
theorem dX11_room_9 : decode cX11_room 9 = .ok (.iconst 1, 1) := by decide +kernel
theorem dX11_room_10 : decode cX11_room 10 = .ok (.invokestatic 79, 3) := by decide +kernel
theorem dX11_room_13 : decode cX11_room 13 = .ok (.ifCond .ne 6, 3) := by decide +kernel
theorem dX11_room_16 : decode cX11_room 16 = .ok (.bipush (-2), 2) := by decide +kernel
theorem dX11_room_18 : decode cX11_room 18 = .ok (.ireturn, 1) := by decide +kernel
theorem dX11_room_19 : decode cX11_room 19 = .ok (.aload_n 0, 1) := by decide +kernel
theorem dX11_room_20 : decode cX11_room 20 = .ok (.getfield 11, 3) := by decide +kernel
theorem dX11_room_23 : decode cX11_room 23 = .ok (.iload_n 1, 1) := by decide +kernel
theorem dX11_room_24 : decode cX11_room 24 = .ok (.aaload, 1) := by decide +kernel
theorem dX11_room_25 : decode cX11_room 25 = .ok (.getfield 257, 3) := by decide +kernel
theorem dX11_room_28 : decode cX11_room 28 = .ok (.iload_n 2, 1) := by decide +kernel
theorem dX11_room_29 : decode cX11_room 29 = .ok (.iaload, 1) := by decide +kernel
theorem dX11_room_30 : decode cX11_room 30 = .ok (.ireturn, 1) := by decide +kernel
theorem dX11_link_0 : decode cX11_link 0 = .ok (.iload_n 1, 1) := by decide +kernel
theorem dX11_link_1 : decode cX11_link 1 = .ok (.invokestatic 91, 3) := by decide +kernel
theorem dX11_link_4 : decode cX11_link 4 = .ok (.ifCond .ne 6, 3) := by decide +kernel
theorem dX11_link_7 : decode cX11_link 7 = .ok (.bipush (-2), 2) := by decide +kernel
theorem dX11_link_9 : decode cX11_link 9 = .ok (.ireturn, 1) := by decide +kernel
theorem dX11_link_10 : decode cX11_link 10 = .ok (.aload_n 0, 1) := by decide +kernel
theorem dX11_link_11 : decode cX11_link 11 = .ok (.getfield 11, 3) := by decide +kernel
theorem dX11_link_14 : decode cX11_link 14 = .ok (.iload_n 1, 1) := by decide +kernel
theorem dX11_link_15 : decode cX11_link 15 = .ok (.aaload, 1) := by decide +kernel
theorem dX11_link_16 : decode cX11_link 16 = .ok (.getfield 261, 3) := by decide +kernel
theorem dX11_link_19 : decode cX11_link 19 = .ok (.astore_n 3, 1) := by decide +kernel
theorem dX11_link_20 : decode cX11_link 20 = .ok (.iload_n 2, 1) := by decide +kernel
theorem dX11_link_21 : decode cX11_link 21 = .ok (.tableswitch 78 0 6 #[43, 48, 53, 58, 63, 68, 73], 43) := by decide +kernel
theorem dX11_link_64 : decode cX11_link 64 = .ok (.aload_n 3, 1) := by decide +kernel
theorem dX11_link_65 : decode cX11_link 65 = .ok (.getfield 265, 3) := by decide +kernel
theorem dX11_link_68 : decode cX11_link 68 = .ok (.ireturn, 1) := by decide +kernel
theorem dX11_link_69 : decode cX11_link 69 = .ok (.aload_n 3, 1) := by decide +kernel
theorem dX11_link_70 : decode cX11_link 70 = .ok (.getfield 270, 3) := by decide +kernel
theorem dX11_link_73 : decode cX11_link 73 = .ok (.ireturn, 1) := by decide +kernel
theorem dX11_link_74 : decode cX11_link 74 = .ok (.aload_n 3, 1) := by decide +kernel
theorem dX11_link_75 : decode cX11_link 75 = .ok (.getfield 273, 3) := by decide +kernel
theorem dX11_link_78 : decode cX11_link 78 = .ok (.ireturn, 1) := by decide +kernel
theorem dX11_link_79 : decode cX11_link 79 = .ok (.aload_n 3, 1) := by decide +kernel
theorem dX11_link_80 : decode cX11_link 80 = .ok (.getfield 276, 3) := by decide +kernel
theorem dX11_link_83 : decode cX11_link 83 = .ok (.ireturn, 1) := by decide +kernel
theorem dX11_link_84 : decode cX11_link 84 = .ok (.aload_n 3, 1) := by decide +kernel
theorem dX11_link_85 : decode cX11_link 85 = .ok (.getfield 279, 3) := by decide +kernel
theorem dX11_link_88 : decode cX11_link 88 = .ok (.ireturn, 1) := by decide +kernel
theorem dX11_link_89 : decode cX11_link 89 = .ok (.aload_n 3, 1) := by decide +kernel
theorem dX11_link_90 : decode cX11_link 90 = .ok (.getfield 282, 3) := by decide +kernel
theorem dX11_link_93 : decode cX11_link 93 = .ok (.ireturn, 1) := by decide +kernel
theorem dX11_link_94 : decode cX11_link 94 = .ok (.aload_n 3, 1) := by decide +kernel
theorem dX11_link_95 : decode cX11_link 95 = .ok (.getfield 285, 3) := by decide +kernel
theorem dX11_link_98 : decode cX11_link 98 = .ok (.ireturn, 1) := by decide +kernel
theorem dX11_link_99 : decode cX11_link 99 = .ok (.bipush (-2), 2) := by decide +kernel
theorem dX11_link_101 : decode cX11_link 101 = .ok (.ireturn, 1) := by decide +kernel
theorem dX11_bit_0 : decode cX11_bit 0 = .ok (.iload_n 1, 1) := by decide +kernel
theorem dX11_bit_1 : decode cX11_bit 1 = .ok (.invokestatic 91, 3) := by decide +kernel
theorem dX11_bit_4 : decode cX11_bit 4 = .ok (.ifCond .ne 6, 3) := by decide +kernel
theorem dX11_bit_7 : decode cX11_bit 7 = .ok (.bipush (-2), 2) := by decide +kernel
theorem dX11_bit_9 : decode cX11_bit 9 = .ok (.ireturn, 1) := by decide +kernel
theorem dX11_bit_10 : decode cX11_bit 10 = .ok (.iload_n 2, 1) := by decide +kernel
theorem dX11_bit_11 : decode cX11_bit 11 = .ok (.ifCond .lt 26, 3) := by decide +kernel
theorem dX11_bit_14 : decode cX11_bit 14 = .ok (.iload_n 2, 1) := by decide +kernel
theorem dX11_bit_15 : decode cX11_bit 15 = .ok (.aload_n 0, 1) := by decide +kernel
theorem dX11_bit_16 : decode cX11_bit 16 = .ok (.getfield 177, 3) := by decide +kernel
theorem dX11_bit_19 : decode cX11_bit 19 = .ok (.if_icmp .ge 18, 3) := by decide +kernel
theorem dX11_bit_22 : decode cX11_bit 22 = .ok (.iload_n 2, 1) := by decide +kernel
theorem dX11_bit_23 : decode cX11_bit 23 = .ok (.aload_n 0, 1) := by decide +kernel
theorem dX11_bit_24 : decode cX11_bit 24 = .ok (.getfield 177, 3) := by decide +kernel
theorem dX11_bit_27 : decode cX11_bit 27 = .ok (.bipush 64, 2) := by decide +kernel
theorem dX11_bit_29 : decode cX11_bit 29 = .ok (.isub, 1) := by decide +kernel
theorem dX11_bit_30 : decode cX11_bit 30 = .ok (.if_icmp .lt 7, 3) := by decide +kernel
theorem dX11_bit_33 : decode cX11_bit 33 = .ok (.iload_n 3, 1) := by decide +kernel
theorem dX11_bit_34 : decode cX11_bit 34 = .ok (.ifCond .ge 5, 3) := by decide +kernel
theorem dX11_bit_37 : decode cX11_bit 37 = .ok (.iconst (-1), 1) := by decide +kernel
theorem dX11_bit_38 : decode cX11_bit 38 = .ok (.ireturn, 1) := by decide +kernel
theorem dX11_bit_39 : decode cX11_bit 39 = .ok (.aload_n 0, 1) := by decide +kernel
theorem dX11_bit_40 : decode cX11_bit 40 = .ok (.getfield 47, 3) := by decide +kernel
theorem dX11_bit_43 : decode cX11_bit 43 = .ok (.aload_n 0, 1) := by decide +kernel
theorem dX11_bit_44 : decode cX11_bit 44 = .ok (.getfield 11, 3) := by decide +kernel
theorem dX11_bit_47 : decode cX11_bit 47 = .ok (.iload_n 1, 1) := by decide +kernel
theorem dX11_bit_48 : decode cX11_bit 48 = .ok (.aaload, 1) := by decide +kernel
theorem dX11_bit_49 : decode cX11_bit 49 = .ok (.getfield 261, 3) := by decide +kernel
theorem dX11_bit_52 : decode cX11_bit 52 = .ok (.getfield 288, 3) := by decide +kernel
theorem dX11_bit_55 : decode cX11_bit 55 = .ok (.iload_n 2, 1) := by decide +kernel
theorem dX11_bit_56 : decode cX11_bit 56 = .ok (.bipush 64, 2) := by decide +kernel
theorem dX11_bit_58 : decode cX11_bit 58 = .ok (.irem, 1) := by decide +kernel
theorem dX11_bit_59 : decode cX11_bit 59 = .ok (.aaload, 1) := by decide +kernel
theorem dX11_bit_60 : decode cX11_bit 60 = .ok (.invokevirtual 292, 3) := by decide +kernel
theorem dX11_bit_63 : decode cX11_bit 63 = .ok (.iload_n 3, 1) := by decide +kernel
theorem dX11_bit_64 : decode cX11_bit 64 = .ok (.aload_n 0, 1) := by decide +kernel
theorem dX11_bit_65 : decode cX11_bit 65 = .ok (.getfield 47, 3) := by decide +kernel
theorem dX11_bit_68 : decode cX11_bit 68 = .ok (.getfield 296, 3) := by decide +kernel
theorem dX11_bit_71 : decode cX11_bit 71 = .ok (.if_icmp .ge 15, 3) := by decide +kernel
theorem dX11_bit_74 : decode cX11_bit 74 = .ok (.aload_n 0, 1) := by decide +kernel
theorem dX11_bit_75 : decode cX11_bit 75 = .ok (.getfield 47, 3) := by decide +kernel
theorem dX11_bit_78 : decode cX11_bit 78 = .ok (.getfield 299, 3) := by decide +kernel
theorem dX11_bit_81 : decode cX11_bit 81 = .ok (.iload_n 3, 1) := by decide +kernel
theorem dX11_bit_82 : decode cX11_bit 82 = .ok (.baload, 1) := by decide +kernel
theorem dX11_bit_83 : decode cX11_bit 83 = .ok (.goto 4, 3) := by decide +kernel
theorem dX11_bit_86 : decode cX11_bit 86 = .ok (.iconst (-1), 1) := by decide +kernel
theorem dX11_bit_87 : decode cX11_bit 87 = .ok (.ireturn, 1) := by decide +kernel
theorem dX11_record_0 : decode cX11_record 0 = .ok (.iload_n 2, 1) := by decide +kernel
theorem dX11_record_1 : decode cX11_record 1 = .ok (.iconst 0, 1) := by decide +kernel
theorem dX11_record_2 : decode cX11_record 2 = .ok (.iconst 4, 1) := by decide +kernel
theorem dX11_record_3 : decode cX11_record 3 = .ok (.invokestatic 79, 3) := by decide +kernel
theorem dX11_record_6 : decode cX11_record 6 = .ok (.ifCond .ne 6, 3) := by decide +kernel
theorem dX11_record_9 : decode cX11_record 9 = .ok (.bipush (-2), 2) := by decide +kernel
theorem dX11_record_11 : decode cX11_record 11 = .ok (.ireturn, 1) := by decide +kernel
theorem dX11_record_12 : decode cX11_record 12 = .ok (.aload_n 0, 1) := by decide +kernel
theorem dX11_record_13 : decode cX11_record 13 = .ok (.getfield 30, 3) := by decide +kernel
theorem dX11_record_16 : decode cX11_record 16 = .ok (.iload_n 1, 1) := by decide +kernel
theorem dX11_record_17 : decode cX11_record 17 = .ok (.iload_n 2, 1) := by decide +kernel
theorem dX11_record_18 : decode cX11_record 18 = .ok (.invokevirtual 302, 3) := by decide +kernel
theorem dX11_record_21 : decode cX11_record 21 = .ok (.ireturn, 1) := by decide +kernel
theorem dX11_told_0 : decode cX11_told 0 = .ok (.iload_n 1, 1) := by decide +kernel
theorem dX11_told_1 : decode cX11_told 1 = .ok (.tableswitch 63 0 4 #[35, 40, 45, 50, 58], 35) := by decide +kernel
theorem dX11_told_36 : decode cX11_told 36 = .ok (.aload_n 0, 1) := by decide +kernel
theorem dX11_told_37 : decode cX11_told 37 = .ok (.getfield 177, 3) := by decide +kernel
theorem dX11_told_40 : decode cX11_told 40 = .ok (.ireturn, 1) := by decide +kernel
theorem dX11_told_41 : decode cX11_told 41 = .ok (.aload_n 0, 1) := by decide +kernel
theorem dX11_told_42 : decode cX11_told 42 = .ok (.getfield 306, 3) := by decide +kernel
theorem dX11_told_45 : decode cX11_told 45 = .ok (.ireturn, 1) := by decide +kernel
theorem dX11_told_46 : decode cX11_told 46 = .ok (.aload_n 0, 1) := by decide +kernel
theorem dX11_told_47 : decode cX11_told 47 = .ok (.getfield 309, 3) := by decide +kernel
theorem dX11_told_50 : decode cX11_told 50 = .ok (.ireturn, 1) := by decide +kernel
theorem dX11_told_51 : decode cX11_told 51 = .ok (.aload_n 0, 1) := by decide +kernel
theorem dX11_told_52 : decode cX11_told 52 = .ok (.getfield 30, 3) := by decide +kernel
theorem dX11_told_55 : decode cX11_told 55 = .ok (.getfield 312, 3) := by decide +kernel
theorem dX11_told_58 : decode cX11_told 58 = .ok (.ireturn, 1) := by decide +kernel
theorem dX11_told_59 : decode cX11_told 59 = .ok (.aload_n 0, 1) := by decide +kernel
theorem dX11_told_60 : decode cX11_told 60 = .ok (.invokevirtual 313, 3) := by decide +kernel
theorem dX11_told_63 : decode cX11_told 63 = .ok (.ireturn, 1) := by decide +kernel
theorem dX11_told_64 : decode cX11_told 64 = .ok (.bipush (-2), 2) := by decide +kernel
theorem dX11_told_66 : decode cX11_told 66 = .ok (.ireturn, 1) := by decide +kernel
theorem dX11_isWithin_0 : decode cX11_isWithin 0 = .ok (.iload_n 0, 1) := by decide +kernel
theorem dX11_isWithin_1 : decode cX11_isWithin 1 = .ok (.iload_n 1, 1) := by decide +kernel
theorem dX11_isWithin_2 : decode cX11_isWithin 2 = .ok (.if_icmp .lt 12, 3) := by decide +kernel
theorem dX11_isWithin_5 : decode cX11_isWithin 5 = .ok (.iload_n 0, 1) := by decide +kernel
theorem dX11_isWithin_6 : decode cX11_isWithin 6 = .ok (.iload_n 2, 1) := by decide +kernel
theorem dX11_isWithin_7 : decode cX11_isWithin 7 = .ok (.if_icmp .gt 7, 3) := by decide +kernel
theorem dX11_isWithin_10 : decode cX11_isWithin 10 = .ok (.iconst 1, 1) := by decide +kernel
theorem dX11_isWithin_11 : decode cX11_isWithin 11 = .ok (.goto 4, 3) := by decide +kernel
theorem dX11_isWithin_14 : decode cX11_isWithin 14 = .ok (.iconst 0, 1) := by decide +kernel
theorem dX11_isWithin_15 : decode cX11_isWithin 15 = .ok (.ireturn, 1) := by decide +kernel
theorem dX11_isExchange_0 : decode cX11_isExchange 0 = .ok (.iload_n 0, 1) := by decide +kernel
theorem dX11_isExchange_1 : decode cX11_isExchange 1 = .ok (.ifCond .lt 12, 3) := by decide +kernel
theorem dX11_isExchange_4 : decode cX11_isExchange 4 = .ok (.iload_n 0, 1) := by decide +kernel
theorem dX11_isExchange_5 : decode cX11_isExchange 5 = .ok (.iconst 2, 1) := by decide +kernel
theorem dX11_isExchange_6 : decode cX11_isExchange 6 = .ok (.if_icmp .ge 7, 3) := by decide +kernel
theorem dX11_isExchange_9 : decode cX11_isExchange 9 = .ok (.iconst 1, 1) := by decide +kernel
theorem dX11_isExchange_10 : decode cX11_isExchange 10 = .ok (.goto 4, 3) := by decide +kernel
theorem dX11_isExchange_13 : decode cX11_isExchange 13 = .ok (.iconst 0, 1) := by decide +kernel
theorem dX11_isExchange_14 : decode cX11_isExchange 14 = .ok (.ireturn, 1) := by decide +kernel
theorem dX11_isLine_0 : decode cX11_isLine 0 = .ok (.iload_n 0, 1) := by decide +kernel
theorem dX11_isLine_1 : decode cX11_isLine 1 = .ok (.ifCond .lt 13, 3) := by decide +kernel
theorem dX11_isLine_4 : decode cX11_isLine 4 = .ok (.iload_n 0, 1) := by decide +kernel
theorem dX11_isLine_5 : decode cX11_isLine 5 = .ok (.bipush 16, 2) := by decide +kernel
theorem dX11_isLine_7 : decode cX11_isLine 7 = .ok (.if_icmp .ge 7, 3) := by decide +kernel
theorem dX11_isLine_10 : decode cX11_isLine 10 = .ok (.iconst 1, 1) := by decide +kernel
theorem dX11_isLine_11 : decode cX11_isLine 11 = .ok (.goto 4, 3) := by decide +kernel
theorem dX11_isLine_14 : decode cX11_isLine 14 = .ok (.iconst 0, 1) := by decide +kernel
theorem dX11_isLine_15 : decode cX11_isLine 15 = .ok (.ireturn, 1) := by decide +kernel
theorem dX11_isTrunk_0 : decode cX11_isTrunk 0 = .ok (.iload_n 1, 1) := by decide +kernel
theorem dX11_isTrunk_1 : decode cX11_isTrunk 1 = .ok (.invokestatic 91, 3) := by decide +kernel
theorem dX11_isTrunk_4 : decode cX11_isTrunk 4 = .ok (.ifCond .eq 19, 3) := by decide +kernel
theorem dX11_isTrunk_7 : decode cX11_isTrunk 7 = .ok (.iload_n 2, 1) := by decide +kernel
theorem dX11_isTrunk_8 : decode cX11_isTrunk 8 = .ok (.ifCond .lt 15, 3) := by decide +kernel
theorem dX11_isTrunk_11 : decode cX11_isTrunk 11 = .ok (.iload_n 2, 1) := by decide +kernel
theorem dX11_isTrunk_12 : decode cX11_isTrunk 12 = .ok (.aload_n 0, 1) := by decide +kernel
theorem dX11_isTrunk_13 : decode cX11_isTrunk 13 = .ok (.getfield 55, 3) := by decide +kernel
theorem dX11_isTrunk_16 : decode cX11_isTrunk 16 = .ok (.if_icmp .ge 7, 3) := by decide +kernel
theorem dX11_isTrunk_19 : decode cX11_isTrunk 19 = .ok (.iconst 1, 1) := by decide +kernel
theorem dX11_isTrunk_20 : decode cX11_isTrunk 20 = .ok (.goto 4, 3) := by decide +kernel
theorem dX11_isTrunk_23 : decode cX11_isTrunk 23 = .ok (.iconst 0, 1) := by decide +kernel
theorem dX11_isTrunk_24 : decode cX11_isTrunk 24 = .ok (.ireturn, 1) := by decide +kernel
theorem dX11_isUnitToCome_0 : decode cX11_isUnitToCome 0 = .ok (.iload_n 1, 1) := by decide +kernel
theorem dX11_isUnitToCome_1 : decode cX11_isUnitToCome 1 = .ok (.aload_n 0, 1) := by decide +kernel
theorem dX11_isUnitToCome_2 : decode cX11_isUnitToCome 2 = .ok (.getfield 177, 3) := by decide +kernel
theorem dX11_isUnitToCome_5 : decode cX11_isUnitToCome 5 = .ok (.if_icmp .lt 19, 3) := by decide +kernel
theorem dX11_isUnitToCome_8 : decode cX11_isUnitToCome 8 = .ok (.iload_n 1, 1) := by decide +kernel
theorem dX11_isUnitToCome_9 : decode cX11_isUnitToCome 9 = .ok (.aload_n 0, 1) := by decide +kernel
theorem dX11_isUnitToCome_10 : decode cX11_isUnitToCome 10 = .ok (.getfield 177, 3) := by decide +kernel
theorem dX11_isUnitToCome_13 : decode cX11_isUnitToCome 13 = .ok (.ldc_w 316, 3) := by decide +kernel
theorem dX11_isUnitToCome_16 : decode cX11_isUnitToCome 16 = .ok (.iadd, 1) := by decide +kernel
theorem dX11_isUnitToCome_17 : decode cX11_isUnitToCome 17 = .ok (.if_icmp .gt 7, 3) := by decide +kernel
theorem dX11_isUnitToCome_20 : decode cX11_isUnitToCome 20 = .ok (.iconst 1, 1) := by decide +kernel
theorem dX11_isUnitToCome_21 : decode cX11_isUnitToCome 21 = .ok (.goto 4, 3) := by decide +kernel
theorem dX11_isUnitToCome_24 : decode cX11_isUnitToCome 24 = .ok (.iconst 0, 1) := by decide +kernel
theorem dX11_isUnitToCome_25 : decode cX11_isUnitToCome 25 = .ok (.ireturn, 1) := by decide +kernel
theorem dX11_isArg_0 : decode cX11_isArg 0 = .ok (.iload_n 2, 1) := by decide +kernel
theorem dX11_isArg_1 : decode cX11_isArg 1 = .ok (.tableswitch 77 0 4 #[35, 56, 56, 63, 70], 35) := by decide +kernel
theorem dX11_isArg_36 : decode cX11_isArg 36 = .ok (.iload_n 3, 1) := by decide +kernel
theorem dX11_isArg_37 : decode cX11_isArg 37 = .ok (.invokestatic 115, 3) := by decide +kernel
theorem dX11_isArg_40 : decode cX11_isArg 40 = .ok (.ifCond .eq 15, 3) := by decide +kernel
theorem dX11_isArg_43 : decode cX11_isArg 43 = .ok (.iload_n 3, 1) := by decide +kernel
theorem dX11_isArg_44 : decode cX11_isArg 44 = .ok (.bipush 8, 2) := by decide +kernel
theorem dX11_isArg_46 : decode cX11_isArg 46 = .ok (.idiv, 1) := by decide +kernel
theorem dX11_isArg_47 : decode cX11_isArg 47 = .ok (.iload_n 0, 1) := by decide +kernel
theorem dX11_isArg_48 : decode cX11_isArg 48 = .ok (.if_icmp .ne 7, 3) := by decide +kernel
theorem dX11_isArg_51 : decode cX11_isArg 51 = .ok (.iconst 1, 1) := by decide +kernel
theorem dX11_isArg_52 : decode cX11_isArg 52 = .ok (.goto 4, 3) := by decide +kernel
theorem dX11_isArg_55 : decode cX11_isArg 55 = .ok (.iconst 0, 1) := by decide +kernel
theorem dX11_isArg_56 : decode cX11_isArg 56 = .ok (.ireturn, 1) := by decide +kernel
theorem dX11_isArg_57 : decode cX11_isArg 57 = .ok (.iload_n 3, 1) := by decide +kernel
theorem dX11_isArg_58 : decode cX11_isArg 58 = .ok (.iconst 0, 1) := by decide +kernel
theorem dX11_isArg_59 : decode cX11_isArg 59 = .ok (.iload_n 1, 1) := by decide +kernel
theorem dX11_isArg_60 : decode cX11_isArg 60 = .ok (.invokestatic 79, 3) := by decide +kernel
theorem dX11_isArg_63 : decode cX11_isArg 63 = .ok (.ireturn, 1) := by decide +kernel
theorem dX11_isArg_64 : decode cX11_isArg 64 = .ok (.iload_n 3, 1) := by decide +kernel
theorem dX11_isArg_65 : decode cX11_isArg 65 = .ok (.iconst 0, 1) := by decide +kernel
theorem dX11_isArg_66 : decode cX11_isArg 66 = .ok (.iconst 2, 1) := by decide +kernel
theorem dX11_isArg_67 : decode cX11_isArg 67 = .ok (.invokestatic 79, 3) := by decide +kernel
theorem dX11_isArg_70 : decode cX11_isArg 70 = .ok (.ireturn, 1) := by decide +kernel
theorem dX11_isArg_71 : decode cX11_isArg 71 = .ok (.iload_n 3, 1) := by decide +kernel
theorem dX11_isArg_72 : decode cX11_isArg 72 = .ok (.iconst 0, 1) := by decide +kernel
theorem dX11_isArg_73 : decode cX11_isArg 73 = .ok (.iconst 1, 1) := by decide +kernel
theorem dX11_isArg_74 : decode cX11_isArg 74 = .ok (.invokestatic 79, 3) := by decide +kernel
theorem dX11_isArg_77 : decode cX11_isArg 77 = .ok (.ireturn, 1) := by decide +kernel
theorem dX11_isArg_78 : decode cX11_isArg 78 = .ok (.iconst 0, 1) := by decide +kernel
theorem dX11_isArg_79 : decode cX11_isArg 79 = .ok (.ireturn, 1) := by decide +kernel
theorem dX11_sideNumber_0 : decode cX11_sideNumber 0 = .ok (.aload_n 0, 1) := by decide +kernel
theorem dX11_sideNumber_1 : decode cX11_sideNumber 1 = .ok (.ifnull 8, 3) := by decide +kernel
theorem dX11_sideNumber_4 : decode cX11_sideNumber 4 = .ok (.aload_n 0, 1) := by decide +kernel
theorem dX11_sideNumber_5 : decode cX11_sideNumber 5 = .ok (.getfield 317, 3) := by decide +kernel
theorem dX11_sideNumber_8 : decode cX11_sideNumber 8 = .ok (.ireturn, 1) := by decide +kernel
theorem dX11_sideNumber_9 : decode cX11_sideNumber 9 = .ok (.aload_n 1, 1) := by decide +kernel
theorem dX11_sideNumber_10 : decode cX11_sideNumber 10 = .ok (.ifnull 13, 3) := by decide +kernel
theorem dX11_sideNumber_13 : decode cX11_sideNumber 13 = .ok (.bipush 100, 2) := by decide +kernel
theorem dX11_sideNumber_15 : decode cX11_sideNumber 15 = .ok (.aload_n 1, 1) := by decide +kernel
theorem dX11_sideNumber_16 : decode cX11_sideNumber 16 = .ok (.getfield 320, 3) := by decide +kernel
theorem dX11_sideNumber_19 : decode cX11_sideNumber 19 = .ok (.iadd, 1) := by decide +kernel
theorem dX11_sideNumber_20 : decode cX11_sideNumber 20 = .ok (.goto 4, 3) := by decide +kernel
theorem dX11_sideNumber_23 : decode cX11_sideNumber 23 = .ok (.iconst (-1), 1) := by decide +kernel
theorem dX11_sideNumber_24 : decode cX11_sideNumber 24 = .ok (.ireturn, 1) := by decide +kernel
theorem dX11_idleAtBothEnds_0 : decode cX11_idleAtBothEnds 0 = .ok (.iconst 0, 1) := by decide +kernel
theorem dX11_idleAtBothEnds_1 : decode cX11_idleAtBothEnds 1 = .ok (.istore_n 1, 1) := by decide +kernel
theorem dX11_idleAtBothEnds_2 : decode cX11_idleAtBothEnds 2 = .ok (.iconst 0, 1) := by decide +kernel
theorem dX11_idleAtBothEnds_3 : decode cX11_idleAtBothEnds 3 = .ok (.istore_n 2, 1) := by decide +kernel
theorem dX11_idleAtBothEnds_4 : decode cX11_idleAtBothEnds 4 = .ok (.iload_n 2, 1) := by decide +kernel
theorem dX11_idleAtBothEnds_5 : decode cX11_idleAtBothEnds 5 = .ok (.aload_n 0, 1) := by decide +kernel
theorem dX11_idleAtBothEnds_6 : decode cX11_idleAtBothEnds 6 = .ok (.getfield 55, 3) := by decide +kernel
theorem dX11_idleAtBothEnds_9 : decode cX11_idleAtBothEnds 9 = .ok (.if_icmp .ge 46, 3) := by decide +kernel
theorem dX11_idleAtBothEnds_12 : decode cX11_idleAtBothEnds 12 = .ok (.aload_n 0, 1) := by decide +kernel
theorem dX11_idleAtBothEnds_13 : decode cX11_idleAtBothEnds 13 = .ok (.getfield 11, 3) := by decide +kernel
theorem dX11_idleAtBothEnds_16 : decode cX11_idleAtBothEnds 16 = .ok (.iconst 0, 1) := by decide +kernel
theorem dX11_idleAtBothEnds_17 : decode cX11_idleAtBothEnds 17 = .ok (.aaload, 1) := by decide +kernel
theorem dX11_idleAtBothEnds_18 : decode cX11_idleAtBothEnds 18 = .ok (.getfield 65, 3) := by decide +kernel
theorem dX11_idleAtBothEnds_21 : decode cX11_idleAtBothEnds 21 = .ok (.iload_n 2, 1) := by decide +kernel
theorem dX11_idleAtBothEnds_22 : decode cX11_idleAtBothEnds 22 = .ok (.aaload, 1) := by decide +kernel
theorem dX11_idleAtBothEnds_23 : decode cX11_idleAtBothEnds 23 = .ok (.getfield 250, 3) := by decide +kernel
theorem dX11_idleAtBothEnds_26 : decode cX11_idleAtBothEnds 26 = .ok (.ifCond .ne 23, 3) := by decide +kernel
theorem dX11_idleAtBothEnds_29 : decode cX11_idleAtBothEnds 29 = .ok (.aload_n 0, 1) := by decide +kernel
theorem dX11_idleAtBothEnds_30 : decode cX11_idleAtBothEnds 30 = .ok (.getfield 11, 3) := by decide +kernel
theorem dX11_idleAtBothEnds_33 : decode cX11_idleAtBothEnds 33 = .ok (.iconst 1, 1) := by decide +kernel
theorem dX11_idleAtBothEnds_34 : decode cX11_idleAtBothEnds 34 = .ok (.aaload, 1) := by decide +kernel
theorem dX11_idleAtBothEnds_35 : decode cX11_idleAtBothEnds 35 = .ok (.getfield 65, 3) := by decide +kernel
theorem dX11_idleAtBothEnds_38 : decode cX11_idleAtBothEnds 38 = .ok (.iload_n 2, 1) := by decide +kernel
theorem dX11_idleAtBothEnds_39 : decode cX11_idleAtBothEnds 39 = .ok (.aaload, 1) := by decide +kernel
theorem dX11_idleAtBothEnds_40 : decode cX11_idleAtBothEnds 40 = .ok (.getfield 250, 3) := by decide +kernel
theorem dX11_idleAtBothEnds_43 : decode cX11_idleAtBothEnds 43 = .ok (.ifCond .ne 6, 3) := by decide +kernel
theorem dX11_idleAtBothEnds_46 : decode cX11_idleAtBothEnds 46 = .ok (.iinc 1 1, 3) := by decide +kernel
theorem dX11_idleAtBothEnds_49 : decode cX11_idleAtBothEnds 49 = .ok (.iinc 2 1, 3) := by decide +kernel
theorem dX11_idleAtBothEnds_52 : decode cX11_idleAtBothEnds 52 = .ok (.goto (-48), 3) := by decide +kernel
theorem dX11_idleAtBothEnds_55 : decode cX11_idleAtBothEnds 55 = .ok (.iload_n 1, 1) := by decide +kernel
theorem dX11_idleAtBothEnds_56 : decode cX11_idleAtBothEnds 56 = .ok (.ireturn, 1) := by decide +kernel
theorem dX11_countOf_0 : decode cX11_countOf 0 = .ok (.lload_n 0, 1) := by decide +kernel
theorem dX11_countOf_1 : decode cX11_countOf 1 = .ok (.bipush 48, 2) := by decide +kernel
theorem dX11_countOf_3 : decode cX11_countOf 3 = .ok (.lshr, 1) := by decide +kernel
theorem dX11_countOf_4 : decode cX11_countOf 4 = .ok (.l2i, 1) := by decide +kernel
theorem dX11_countOf_5 : decode cX11_countOf 5 = .ok (.ireturn, 1) := by decide +kernel
theorem dX11_withKey_0 : decode cX11_withKey 0 = .ok (.lload_n 0, 1) := by decide +kernel
theorem dX11_withKey_1 : decode cX11_withKey 1 = .ok (.invokestatic 83, 3) := by decide +kernel
theorem dX11_withKey_4 : decode cX11_withKey 4 = .ok (.istore_n 3, 1) := by decide +kernel
theorem dX11_withKey_5 : decode cX11_withKey 5 = .ok (.lload_n 0, 1) := by decide +kernel
theorem dX11_withKey_6 : decode cX11_withKey 6 = .ok (.ldc2_w 321, 3) := by decide +kernel
theorem dX11_withKey_9 : decode cX11_withKey 9 = .ok (.land, 1) := by decide +kernel
theorem dX11_withKey_10 : decode cX11_withKey 10 = .ok (.iload_n 2, 1) := by decide +kernel
theorem dX11_withKey_11 : decode cX11_withKey 11 = .ok (.i2l, 1) := by decide +kernel
theorem dX11_withKey_12 : decode cX11_withKey 12 = .ok (.iconst 4, 1) := by decide +kernel
theorem dX11_withKey_13 : decode cX11_withKey 13 = .ok (.iload_n 3, 1) := by decide +kernel
theorem dX11_withKey_14 : decode cX11_withKey 14 = .ok (.imul, 1) := by decide +kernel
theorem dX11_withKey_15 : decode cX11_withKey 15 = .ok (.lshl, 1) := by decide +kernel
theorem dX11_withKey_16 : decode cX11_withKey 16 = .ok (.lor, 1) := by decide +kernel
theorem dX11_withKey_17 : decode cX11_withKey 17 = .ok (.iload_n 3, 1) := by decide +kernel
theorem dX11_withKey_18 : decode cX11_withKey 18 = .ok (.iconst 1, 1) := by decide +kernel
theorem dX11_withKey_19 : decode cX11_withKey 19 = .ok (.iadd, 1) := by decide +kernel
theorem dX11_withKey_20 : decode cX11_withKey 20 = .ok (.i2l, 1) := by decide +kernel
theorem dX11_withKey_21 : decode cX11_withKey 21 = .ok (.bipush 48, 2) := by decide +kernel
theorem dX11_withKey_23 : decode cX11_withKey 23 = .ok (.lshl, 1) := by decide +kernel
theorem dX11_withKey_24 : decode cX11_withKey 24 = .ok (.lor, 1) := by decide +kernel
theorem dX11_withKey_25 : decode cX11_withKey 25 = .ok (.lreturn, 1) := by decide +kernel
theorem dX11_withoutFirst_0 : decode cX11_withoutFirst 0 = .ok (.lload_n 0, 1) := by decide +kernel
theorem dX11_withoutFirst_1 : decode cX11_withoutFirst 1 = .ok (.invokestatic 83, 3) := by decide +kernel
theorem dX11_withoutFirst_4 : decode cX11_withoutFirst 4 = .ok (.istore_n 3, 1) := by decide +kernel
theorem dX11_withoutFirst_5 : decode cX11_withoutFirst 5 = .ok (.iload_n 2, 1) := by decide +kernel
theorem dX11_withoutFirst_6 : decode cX11_withoutFirst 6 = .ok (.iload_n 3, 1) := by decide +kernel
theorem dX11_withoutFirst_7 : decode cX11_withoutFirst 7 = .ok (.if_icmp .lt 5, 3) := by decide +kernel
theorem dX11_withoutFirst_10 : decode cX11_withoutFirst 10 = .ok (.lconst 0, 1) := by decide +kernel
theorem dX11_withoutFirst_11 : decode cX11_withoutFirst 11 = .ok (.lreturn, 1) := by decide +kernel
theorem dX11_withoutFirst_12 : decode cX11_withoutFirst 12 = .ok (.lload_n 0, 1) := by decide +kernel
theorem dX11_withoutFirst_13 : decode cX11_withoutFirst 13 = .ok (.ldc2_w 321, 3) := by decide +kernel
theorem dX11_withoutFirst_16 : decode cX11_withoutFirst 16 = .ok (.land, 1) := by decide +kernel
theorem dX11_withoutFirst_17 : decode cX11_withoutFirst 17 = .ok (.iconst 4, 1) := by decide +kernel
theorem dX11_withoutFirst_18 : decode cX11_withoutFirst 18 = .ok (.iload_n 2, 1) := by decide +kernel
theorem dX11_withoutFirst_19 : decode cX11_withoutFirst 19 = .ok (.imul, 1) := by decide +kernel
theorem dX11_withoutFirst_20 : decode cX11_withoutFirst 20 = .ok (.lshr, 1) := by decide +kernel
theorem dX11_withoutFirst_21 : decode cX11_withoutFirst 21 = .ok (.iload_n 3, 1) := by decide +kernel
theorem dX11_withoutFirst_22 : decode cX11_withoutFirst 22 = .ok (.iload_n 2, 1) := by decide +kernel
theorem dX11_withoutFirst_23 : decode cX11_withoutFirst 23 = .ok (.isub, 1) := by decide +kernel
theorem dX11_withoutFirst_24 : decode cX11_withoutFirst 24 = .ok (.i2l, 1) := by decide +kernel
theorem dX11_withoutFirst_25 : decode cX11_withoutFirst 25 = .ok (.bipush 48, 2) := by decide +kernel
theorem dX11_withoutFirst_27 : decode cX11_withoutFirst 27 = .ok (.lshl, 1) := by decide +kernel
theorem dX11_withoutFirst_28 : decode cX11_withoutFirst 28 = .ok (.lor, 1) := by decide +kernel
theorem dX11_withoutFirst_29 : decode cX11_withoutFirst 29 = .ok (.lreturn, 1) := by decide +kernel
theorem dX11_beginsWith_0 : decode cX11_beginsWith 0 = .ok (.lload_n 2, 1) := by decide +kernel
theorem dX11_beginsWith_1 : decode cX11_beginsWith 1 = .ok (.bipush 48, 2) := by decide +kernel
theorem dX11_beginsWith_3 : decode cX11_beginsWith 3 = .ok (.lshr, 1) := by decide +kernel
theorem dX11_beginsWith_4 : decode cX11_beginsWith 4 = .ok (.l2i, 1) := by decide +kernel
theorem dX11_beginsWith_5 : decode cX11_beginsWith 5 = .ok (.istore 4, 2) := by decide +kernel
theorem dX11_beginsWith_7 : decode cX11_beginsWith 7 = .ok (.lload_n 0, 1) := by decide +kernel
theorem dX11_beginsWith_8 : decode cX11_beginsWith 8 = .ok (.bipush 48, 2) := by decide +kernel
theorem dX11_beginsWith_10 : decode cX11_beginsWith 10 = .ok (.lshr, 1) := by decide +kernel
theorem dX11_beginsWith_11 : decode cX11_beginsWith 11 = .ok (.iload 4, 2) := by decide +kernel
theorem dX11_beginsWith_13 : decode cX11_beginsWith 13 = .ok (.i2l, 1) := by decide +kernel
theorem dX11_beginsWith_14 : decode cX11_beginsWith 14 = .ok (.lcmp, 1) := by decide +kernel
theorem dX11_beginsWith_15 : decode cX11_beginsWith 15 = .ok (.ifCond .lt 24, 3) := by decide +kernel
theorem dX11_beginsWith_18 : decode cX11_beginsWith 18 = .ok (.lload_n 0, 1) := by decide +kernel
theorem dX11_beginsWith_19 : decode cX11_beginsWith 19 = .ok (.lload_n 2, 1) := by decide +kernel
theorem dX11_beginsWith_20 : decode cX11_beginsWith 20 = .ok (.lxor, 1) := by decide +kernel
theorem dX11_beginsWith_21 : decode cX11_beginsWith 21 = .ok (.lconst 1, 1) := by decide +kernel
theorem dX11_beginsWith_22 : decode cX11_beginsWith 22 = .ok (.iconst 4, 1) := by decide +kernel
theorem dX11_beginsWith_23 : decode cX11_beginsWith 23 = .ok (.iload 4, 2) := by decide +kernel
theorem dX11_beginsWith_25 : decode cX11_beginsWith 25 = .ok (.imul, 1) := by decide +kernel
theorem dX11_beginsWith_26 : decode cX11_beginsWith 26 = .ok (.lshl, 1) := by decide +kernel
theorem dX11_beginsWith_27 : decode cX11_beginsWith 27 = .ok (.lconst 1, 1) := by decide +kernel
theorem dX11_beginsWith_28 : decode cX11_beginsWith 28 = .ok (.lsub, 1) := by decide +kernel
theorem dX11_beginsWith_29 : decode cX11_beginsWith 29 = .ok (.land, 1) := by decide +kernel
theorem dX11_beginsWith_30 : decode cX11_beginsWith 30 = .ok (.lconst 0, 1) := by decide +kernel
theorem dX11_beginsWith_31 : decode cX11_beginsWith 31 = .ok (.lcmp, 1) := by decide +kernel
theorem dX11_beginsWith_32 : decode cX11_beginsWith 32 = .ok (.ifCond .ne 7, 3) := by decide +kernel
theorem dX11_beginsWith_35 : decode cX11_beginsWith 35 = .ok (.iconst 1, 1) := by decide +kernel
theorem dX11_beginsWith_36 : decode cX11_beginsWith 36 = .ok (.goto 4, 3) := by decide +kernel
theorem dX11_beginsWith_39 : decode cX11_beginsWith 39 = .ok (.iconst 0, 1) := by decide +kernel
theorem dX11_beginsWith_40 : decode cX11_beginsWith 40 = .ok (.ireturn, 1) := by decide +kernel
theorem dX11_takeUnits_0 : decode cX11_takeUnits 0 = .ok (.iconst 0, 1) := by decide +kernel
theorem dX11_takeUnits_1 : decode cX11_takeUnits 1 = .ok (.istore_n 1, 1) := by decide +kernel
theorem dX11_takeUnits_2 : decode cX11_takeUnits 2 = .ok (.iload_n 1, 1) := by decide +kernel
theorem dX11_takeUnits_3 : decode cX11_takeUnits 3 = .ok (.iconst 2, 1) := by decide +kernel
theorem dX11_takeUnits_4 : decode cX11_takeUnits 4 = .ok (.if_icmp .ge 131, 3) := by decide +kernel
theorem dX11_takeUnits_7 : decode cX11_takeUnits 7 = .ok (.aload_n 0, 1) := by decide +kernel
theorem dX11_takeUnits_8 : decode cX11_takeUnits 8 = .ok (.getfield 11, 3) := by decide +kernel
theorem dX11_takeUnits_11 : decode cX11_takeUnits 11 = .ok (.iconst 1, 1) := by decide +kernel
theorem dX11_takeUnits_12 : decode cX11_takeUnits 12 = .ok (.iload_n 1, 1) := by decide +kernel
theorem dX11_takeUnits_13 : decode cX11_takeUnits 13 = .ok (.isub, 1) := by decide +kernel
theorem dX11_takeUnits_14 : decode cX11_takeUnits 14 = .ok (.aaload, 1) := by decide +kernel
theorem dX11_takeUnits_15 : decode cX11_takeUnits 15 = .ok (.getfield 261, 3) := by decide +kernel
theorem dX11_takeUnits_18 : decode cX11_takeUnits 18 = .ok (.getfield 323, 3) := by decide +kernel
theorem dX11_takeUnits_21 : decode cX11_takeUnits 21 = .ok (.aload_n 0, 1) := by decide +kernel
theorem dX11_takeUnits_22 : decode cX11_takeUnits 22 = .ok (.getfield 177, 3) := by decide +kernel
theorem dX11_takeUnits_25 : decode cX11_takeUnits 25 = .ok (.iconst 1, 1) := by decide +kernel
theorem dX11_takeUnits_26 : decode cX11_takeUnits 26 = .ok (.iand, 1) := by decide +kernel
theorem dX11_takeUnits_27 : decode cX11_takeUnits 27 = .ok (.aaload, 1) := by decide +kernel
theorem dX11_takeUnits_28 : decode cX11_takeUnits 28 = .ok (.astore_n 2, 1) := by decide +kernel
theorem dX11_takeUnits_29 : decode cX11_takeUnits 29 = .ok (.aload_n 0, 1) := by decide +kernel
theorem dX11_takeUnits_30 : decode cX11_takeUnits 30 = .ok (.getfield 11, 3) := by decide +kernel
theorem dX11_takeUnits_33 : decode cX11_takeUnits 33 = .ok (.iload_n 1, 1) := by decide +kernel
theorem dX11_takeUnits_34 : decode cX11_takeUnits 34 = .ok (.aaload, 1) := by decide +kernel
theorem dX11_takeUnits_35 : decode cX11_takeUnits 35 = .ok (.getfield 261, 3) := by decide +kernel
theorem dX11_takeUnits_38 : decode cX11_takeUnits 38 = .ok (.aload_n 2, 1) := by decide +kernel
theorem dX11_takeUnits_39 : decode cX11_takeUnits 39 = .ok (.invokevirtual 326, 3) := by decide +kernel
theorem dX11_takeUnits_42 : decode cX11_takeUnits 42 = .ok (.lstore_n 3, 1) := by decide +kernel
theorem dX11_takeUnits_43 : decode cX11_takeUnits 43 = .ok (.lload_n 3, 1) := by decide +kernel
theorem dX11_takeUnits_44 : decode cX11_takeUnits 44 = .ok (.ldc2_w 330, 3) := by decide +kernel
theorem dX11_takeUnits_47 : decode cX11_takeUnits 47 = .ok (.lcmp, 1) := by decide +kernel
theorem dX11_takeUnits_48 : decode cX11_takeUnits 48 = .ok (.ifCond .eq 81, 3) := by decide +kernel
theorem dX11_takeUnits_51 : decode cX11_takeUnits 51 = .ok (.lload_n 3, 1) := by decide +kernel
theorem dX11_takeUnits_52 : decode cX11_takeUnits 52 = .ok (.lconst 0, 1) := by decide +kernel
theorem dX11_takeUnits_53 : decode cX11_takeUnits 53 = .ok (.lcmp, 1) := by decide +kernel
theorem dX11_takeUnits_54 : decode cX11_takeUnits 54 = .ok (.ifCond .ne 6, 3) := by decide +kernel
theorem dX11_takeUnits_57 : decode cX11_takeUnits 57 = .ok (.goto 72, 3) := by decide +kernel
theorem dX11_takeUnits_60 : decode cX11_takeUnits 60 = .ok (.lload_n 3, 1) := by decide +kernel
theorem dX11_takeUnits_61 : decode cX11_takeUnits 61 = .ok (.invokestatic 332, 3) := by decide +kernel
theorem dX11_takeUnits_64 : decode cX11_takeUnits 64 = .ok (.istore 5, 2) := by decide +kernel
theorem dX11_takeUnits_66 : decode cX11_takeUnits 66 = .ok (.iload 5, 2) := by decide +kernel
theorem dX11_takeUnits_68 : decode cX11_takeUnits 68 = .ok (.aload_n 0, 1) := by decide +kernel
theorem dX11_takeUnits_69 : decode cX11_takeUnits 69 = .ok (.getfield 55, 3) := by decide +kernel
theorem dX11_takeUnits_72 : decode cX11_takeUnits 72 = .ok (.if_icmp .lt 6, 3) := by decide +kernel
theorem dX11_takeUnits_75 : decode cX11_takeUnits 75 = .ok (.goto 54, 3) := by decide +kernel
theorem dX11_takeUnits_78 : decode cX11_takeUnits 78 = .ok (.aload_n 0, 1) := by decide +kernel
theorem dX11_takeUnits_79 : decode cX11_takeUnits 79 = .ok (.getfield 11, 3) := by decide +kernel
theorem dX11_takeUnits_82 : decode cX11_takeUnits 82 = .ok (.iload_n 1, 1) := by decide +kernel
theorem dX11_takeUnits_83 : decode cX11_takeUnits 83 = .ok (.aaload, 1) := by decide +kernel
theorem dX11_takeUnits_84 : decode cX11_takeUnits 84 = .ok (.getfield 65, 3) := by decide +kernel
theorem dX11_takeUnits_87 : decode cX11_takeUnits 87 = .ok (.iload 5, 2) := by decide +kernel
theorem dX11_takeUnits_89 : decode cX11_takeUnits 89 = .ok (.aaload, 1) := by decide +kernel
theorem dX11_takeUnits_90 : decode cX11_takeUnits 90 = .ok (.astore 6, 2) := by decide +kernel
theorem dX11_takeUnits_92 : decode cX11_takeUnits 92 = .ok (.lload_n 3, 1) := by decide +kernel
theorem dX11_takeUnits_93 : decode cX11_takeUnits 93 = .ok (.invokestatic 337, 3) := by decide +kernel
theorem dX11_takeUnits_96 : decode cX11_takeUnits 96 = .ok (.iconst 1, 1) := by decide +kernel
theorem dX11_takeUnits_97 : decode cX11_takeUnits 97 = .ok (.if_icmp .ne 19, 3) := by decide +kernel
theorem dX11_takeUnits_100 : decode cX11_takeUnits 100 = .ok (.aload_n 0, 1) := by decide +kernel
theorem dX11_takeUnits_101 : decode cX11_takeUnits 101 = .ok (.aload_n 0, 1) := by decide +kernel
theorem dX11_takeUnits_102 : decode cX11_takeUnits 102 = .ok (.getfield 11, 3) := by decide +kernel
theorem dX11_takeUnits_105 : decode cX11_takeUnits 105 = .ok (.iload_n 1, 1) := by decide +kernel
theorem dX11_takeUnits_106 : decode cX11_takeUnits 106 = .ok (.aaload, 1) := by decide +kernel
theorem dX11_takeUnits_107 : decode cX11_takeUnits 107 = .ok (.aload 6, 2) := by decide +kernel
theorem dX11_takeUnits_109 : decode cX11_takeUnits 109 = .ok (.lload_n 3, 1) := by decide +kernel
theorem dX11_takeUnits_110 : decode cX11_takeUnits 110 = .ok (.invokevirtual 340, 3) := by decide +kernel
theorem dX11_takeUnits_113 : decode cX11_takeUnits 113 = .ok (.goto 16, 3) := by decide +kernel
theorem dX11_takeUnits_116 : decode cX11_takeUnits 116 = .ok (.aload_n 0, 1) := by decide +kernel
theorem dX11_takeUnits_117 : decode cX11_takeUnits 117 = .ok (.aload_n 0, 1) := by decide +kernel
theorem dX11_takeUnits_118 : decode cX11_takeUnits 118 = .ok (.getfield 11, 3) := by decide +kernel
theorem dX11_takeUnits_121 : decode cX11_takeUnits 121 = .ok (.iload_n 1, 1) := by decide +kernel
theorem dX11_takeUnits_122 : decode cX11_takeUnits 122 = .ok (.aaload, 1) := by decide +kernel
theorem dX11_takeUnits_123 : decode cX11_takeUnits 123 = .ok (.aload 6, 2) := by decide +kernel
theorem dX11_takeUnits_125 : decode cX11_takeUnits 125 = .ok (.lload_n 3, 1) := by decide +kernel
theorem dX11_takeUnits_126 : decode cX11_takeUnits 126 = .ok (.invokevirtual 344, 3) := by decide +kernel
theorem dX11_takeUnits_129 : decode cX11_takeUnits 129 = .ok (.iinc 1 1, 3) := by decide +kernel
theorem dX11_takeUnits_132 : decode cX11_takeUnits 132 = .ok (.goto (-130), 3) := by decide +kernel
theorem dX11_takeUnits_135 : decode cX11_takeUnits 135 = .ok (.return_, 1) := by decide +kernel
theorem dX11_takeIam_0 : decode cX11_takeIam 0 = .ok (.aload_n 2, 1) := by decide +kernel
theorem dX11_takeIam_1 : decode cX11_takeIam 1 = .ok (.getfield 250, 3) := by decide +kernel
theorem dX11_takeIam_4 : decode cX11_takeIam 4 = .ok (.iconst 1, 1) := by decide +kernel
theorem dX11_takeIam_5 : decode cX11_takeIam 5 = .ok (.if_icmp .ne 50, 3) := by decide +kernel
theorem dX11_takeIam_8 : decode cX11_takeIam 8 = .ok (.aload_n 2, 1) := by decide +kernel
theorem dX11_takeIam_9 : decode cX11_takeIam 9 = .ok (.invokevirtual 347, 3) := by decide +kernel
theorem dX11_takeIam_12 : decode cX11_takeIam 12 = .ok (.ifCond .eq 43, 3) := by decide +kernel
theorem dX11_takeIam_15 : decode cX11_takeIam 15 = .ok (.aload_n 2, 1) := by decide +kernel
theorem dX11_takeIam_16 : decode cX11_takeIam 16 = .ok (.getfield 320, 3) := by decide +kernel
theorem dX11_takeIam_19 : decode cX11_takeIam 19 = .ok (.iconst 2, 1) := by decide +kernel
theorem dX11_takeIam_20 : decode cX11_takeIam 20 = .ok (.irem, 1) := by decide +kernel
theorem dX11_takeIam_21 : decode cX11_takeIam 21 = .ok (.aload_n 1, 1) := by decide +kernel
theorem dX11_takeIam_22 : decode cX11_takeIam 22 = .ok (.getfield 351, 3) := by decide +kernel
theorem dX11_takeIam_25 : decode cX11_takeIam 25 = .ok (.if_icmp .eq 30, 3) := by decide +kernel
theorem dX11_takeIam_28 : decode cX11_takeIam 28 = .ok (.aload_n 2, 1) := by decide +kernel
theorem dX11_takeIam_29 : decode cX11_takeIam 29 = .ok (.getfield 352, 3) := by decide +kernel
theorem dX11_takeIam_32 : decode cX11_takeIam 32 = .ok (.astore 5, 2) := by decide +kernel
theorem dX11_takeIam_34 : decode cX11_takeIam 34 = .ok (.aload_n 2, 1) := by decide +kernel
theorem dX11_takeIam_35 : decode cX11_takeIam 35 = .ok (.aconst_null, 1) := by decide +kernel
theorem dX11_takeIam_36 : decode cX11_takeIam 36 = .ok (.putfield 352, 3) := by decide +kernel
theorem dX11_takeIam_39 : decode cX11_takeIam 39 = .ok (.aload 5, 2) := by decide +kernel
theorem dX11_takeIam_41 : decode cX11_takeIam 41 = .ok (.aconst_null, 1) := by decide +kernel
theorem dX11_takeIam_42 : decode cX11_takeIam 42 = .ok (.putfield 240, 3) := by decide +kernel
theorem dX11_takeIam_45 : decode cX11_takeIam 45 = .ok (.aload_n 0, 1) := by decide +kernel
theorem dX11_takeIam_46 : decode cX11_takeIam 46 = .ok (.aload 5, 2) := by decide +kernel
theorem dX11_takeIam_48 : decode cX11_takeIam 48 = .ok (.iconst (-1), 1) := by decide +kernel
theorem dX11_takeIam_49 : decode cX11_takeIam 49 = .ok (.invokevirtual 355, 3) := by decide +kernel
theorem dX11_takeIam_52 : decode cX11_takeIam 52 = .ok (.goto 11, 3) := by decide +kernel
theorem dX11_takeIam_55 : decode cX11_takeIam 55 = .ok (.aload_n 2, 1) := by decide +kernel
theorem dX11_takeIam_56 : decode cX11_takeIam 56 = .ok (.getfield 250, 3) := by decide +kernel
theorem dX11_takeIam_59 : decode cX11_takeIam 59 = .ok (.ifCond .eq 4, 3) := by decide +kernel
theorem dX11_takeIam_62 : decode cX11_takeIam 62 = .ok (.return_, 1) := by decide +kernel
theorem dX11_takeIam_63 : decode cX11_takeIam 63 = .ok (.aload_n 2, 1) := by decide +kernel
theorem dX11_takeIam_64 : decode cX11_takeIam 64 = .ok (.iconst 2, 1) := by decide +kernel
theorem dX11_takeIam_65 : decode cX11_takeIam 65 = .ok (.putfield 250, 3) := by decide +kernel
theorem dX11_takeIam_68 : decode cX11_takeIam 68 = .ok (.aload_n 0, 1) := by decide +kernel
theorem dX11_takeIam_69 : decode cX11_takeIam 69 = .ok (.aload_n 1, 1) := by decide +kernel
theorem dX11_takeIam_70 : decode cX11_takeIam 70 = .ok (.invokevirtual 359, 3) := by decide +kernel
theorem dX11_takeIam_73 : decode cX11_takeIam 73 = .ok (.astore 5, 2) := by decide +kernel
theorem dX11_takeIam_75 : decode cX11_takeIam 75 = .ok (.aload 5, 2) := by decide +kernel
theorem dX11_takeIam_77 : decode cX11_takeIam 77 = .ok (.ifnonnull 4, 3) := by decide +kernel
theorem dX11_takeIam_80 : decode cX11_takeIam 80 = .ok (.return_, 1) := by decide +kernel
theorem dX11_takeIam_81 : decode cX11_takeIam 81 = .ok (.aload_n 2, 1) := by decide +kernel
theorem dX11_takeIam_82 : decode cX11_takeIam 82 = .ok (.aload 5, 2) := by decide +kernel
theorem dX11_takeIam_84 : decode cX11_takeIam 84 = .ok (.putfield 352, 3) := by decide +kernel
theorem dX11_takeIam_87 : decode cX11_takeIam 87 = .ok (.aload 5, 2) := by decide +kernel
theorem dX11_takeIam_89 : decode cX11_takeIam 89 = .ok (.aload_n 2, 1) := by decide +kernel
theorem dX11_takeIam_90 : decode cX11_takeIam 90 = .ok (.putfield 227, 3) := by decide +kernel
theorem dX11_takeIam_93 : decode cX11_takeIam 93 = .ok (.aload 5, 2) := by decide +kernel
theorem dX11_takeIam_95 : decode cX11_takeIam 95 = .ok (.lload_n 3, 1) := by decide +kernel
theorem dX11_takeIam_96 : decode cX11_takeIam 96 = .ok (.invokestatic 363, 3) := by decide +kernel
theorem dX11_takeIam_99 : decode cX11_takeIam 99 = .ok (.putfield 366, 3) := by decide +kernel
theorem dX11_takeIam_102 : decode cX11_takeIam 102 = .ok (.aload 5, 2) := by decide +kernel
theorem dX11_takeIam_104 : decode cX11_takeIam 104 = .ok (.lload_n 3, 1) := by decide +kernel
theorem dX11_takeIam_105 : decode cX11_takeIam 105 = .ok (.invokestatic 368, 3) := by decide +kernel
theorem dX11_takeIam_108 : decode cX11_takeIam 108 = .ok (.putfield 222, 3) := by decide +kernel
theorem dX11_takeIam_111 : decode cX11_takeIam 111 = .ok (.aload_n 1, 1) := by decide +kernel
theorem dX11_takeIam_112 : decode cX11_takeIam 112 = .ok (.aload 5, 2) := by decide +kernel
theorem dX11_takeIam_114 : decode cX11_takeIam 114 = .ok (.getfield 222, 3) := by decide +kernel
theorem dX11_takeIam_117 : decode cX11_takeIam 117 = .ok (.invokevirtual 372, 3) := by decide +kernel
theorem dX11_takeIam_120 : decode cX11_takeIam 120 = .ok (.istore 6, 2) := by decide +kernel
theorem dX11_takeIam_122 : decode cX11_takeIam 122 = .ok (.iload 6, 2) := by decide +kernel
theorem dX11_takeIam_124 : decode cX11_takeIam 124 = .ok (.ifCond .ge 12, 3) := by decide +kernel
theorem dX11_takeIam_127 : decode cX11_takeIam 127 = .ok (.aload_n 0, 1) := by decide +kernel
theorem dX11_takeIam_128 : decode cX11_takeIam 128 = .ok (.aload 5, 2) := by decide +kernel
theorem dX11_takeIam_130 : decode cX11_takeIam 130 = .ok (.iconst 1, 1) := by decide +kernel
theorem dX11_takeIam_131 : decode cX11_takeIam 131 = .ok (.iconst 0, 1) := by decide +kernel
theorem dX11_takeIam_132 : decode cX11_takeIam 132 = .ok (.invokevirtual 375, 3) := by decide +kernel
theorem dX11_takeIam_135 : decode cX11_takeIam 135 = .ok (.return_, 1) := by decide +kernel
theorem dX11_takeIam_136 : decode cX11_takeIam 136 = .ok (.aload 5, 2) := by decide +kernel
theorem dX11_takeIam_138 : decode cX11_takeIam 138 = .ok (.aload_n 1, 1) := by decide +kernel
theorem dX11_takeIam_139 : decode cX11_takeIam 139 = .ok (.getfield 106, 3) := by decide +kernel
theorem dX11_takeIam_142 : decode cX11_takeIam 142 = .ok (.iload 6, 2) := by decide +kernel
theorem dX11_takeIam_144 : decode cX11_takeIam 144 = .ok (.aaload, 1) := by decide +kernel
theorem dX11_takeIam_145 : decode cX11_takeIam 145 = .ok (.putfield 379, 3) := by decide +kernel
theorem dX11_takeIam_148 : decode cX11_takeIam 148 = .ok (.aload_n 0, 1) := by decide +kernel
theorem dX11_takeIam_149 : decode cX11_takeIam 149 = .ok (.aload 5, 2) := by decide +kernel
theorem dX11_takeIam_151 : decode cX11_takeIam 151 = .ok (.iconst (-1), 1) := by decide +kernel
theorem dX11_takeIam_152 : decode cX11_takeIam 152 = .ok (.invokevirtual 355, 3) := by decide +kernel
theorem dX11_takeIam_155 : decode cX11_takeIam 155 = .ok (.return_, 1) := by decide +kernel
theorem dX11_takeSignal_0 : decode cX11_takeSignal 0 = .ok (.aload_n 2, 1) := by decide +kernel
theorem dX11_takeSignal_1 : decode cX11_takeSignal 1 = .ok (.getfield 352, 3) := by decide +kernel
theorem dX11_takeSignal_4 : decode cX11_takeSignal 4 = .ok (.astore 5, 2) := by decide +kernel
theorem dX11_takeSignal_6 : decode cX11_takeSignal 6 = .ok (.lload_n 3, 1) := by decide +kernel
theorem dX11_takeSignal_7 : decode cX11_takeSignal 7 = .ok (.invokestatic 337, 3) := by decide +kernel
theorem dX11_takeSignal_10 : decode cX11_takeSignal 10 = .ok (.tableswitch 136 2 5 #[30, 61, 107, 120], 30) := by decide +kernel
theorem dX11_takeSignal_40 : decode cX11_takeSignal 40 = .ok (.aload_n 2, 1) := by decide +kernel
theorem dX11_takeSignal_41 : decode cX11_takeSignal 41 = .ok (.getfield 250, 3) := by decide +kernel
theorem dX11_takeSignal_44 : decode cX11_takeSignal 44 = .ok (.iconst 1, 1) := by decide +kernel
theorem dX11_takeSignal_45 : decode cX11_takeSignal 45 = .ok (.if_icmp .ne 101, 3) := by decide +kernel
theorem dX11_takeSignal_48 : decode cX11_takeSignal 48 = .ok (.aload_n 2, 1) := by decide +kernel
theorem dX11_takeSignal_49 : decode cX11_takeSignal 49 = .ok (.invokevirtual 347, 3) := by decide +kernel
theorem dX11_takeSignal_52 : decode cX11_takeSignal 52 = .ok (.ifCond .eq 94, 3) := by decide +kernel
theorem dX11_takeSignal_55 : decode cX11_takeSignal 55 = .ok (.aload_n 0, 1) := by decide +kernel
theorem dX11_takeSignal_56 : decode cX11_takeSignal 56 = .ok (.aload 5, 2) := by decide +kernel
theorem dX11_takeSignal_58 : decode cX11_takeSignal 58 = .ok (.iconst 2, 1) := by decide +kernel
theorem dX11_takeSignal_59 : decode cX11_takeSignal 59 = .ok (.invokevirtual 383, 3) := by decide +kernel
theorem dX11_takeSignal_62 : decode cX11_takeSignal 62 = .ok (.aload_n 0, 1) := by decide +kernel
theorem dX11_takeSignal_63 : decode cX11_takeSignal 63 = .ok (.aload 5, 2) := by decide +kernel
theorem dX11_takeSignal_65 : decode cX11_takeSignal 65 = .ok (.invokevirtual 386, 3) := by decide +kernel
theorem dX11_takeSignal_68 : decode cX11_takeSignal 68 = .ok (.goto 78, 3) := by decide +kernel
theorem dX11_takeSignal_71 : decode cX11_takeSignal 71 = .ok (.aload_n 2, 1) := by decide +kernel
theorem dX11_takeSignal_72 : decode cX11_takeSignal 72 = .ok (.getfield 250, 3) := by decide +kernel
theorem dX11_takeSignal_75 : decode cX11_takeSignal 75 = .ok (.iconst 1, 1) := by decide +kernel
theorem dX11_takeSignal_76 : decode cX11_takeSignal 76 = .ok (.if_icmp .ne 70, 3) := by decide +kernel
theorem dX11_takeSignal_79 : decode cX11_takeSignal 79 = .ok (.aload 5, 2) := by decide +kernel
theorem dX11_takeSignal_81 : decode cX11_takeSignal 81 = .ok (.ifnull 65, 3) := by decide +kernel
theorem dX11_takeSignal_84 : decode cX11_takeSignal 84 = .ok (.aload 5, 2) := by decide +kernel
theorem dX11_takeSignal_86 : decode cX11_takeSignal 86 = .ok (.getfield 210, 3) := by decide +kernel
theorem dX11_takeSignal_89 : decode cX11_takeSignal 89 = .ok (.iconst 1, 1) := by decide +kernel
theorem dX11_takeSignal_90 : decode cX11_takeSignal 90 = .ok (.if_icmp .eq 12, 3) := by decide +kernel
theorem dX11_takeSignal_93 : decode cX11_takeSignal 93 = .ok (.aload 5, 2) := by decide +kernel
theorem dX11_takeSignal_95 : decode cX11_takeSignal 95 = .ok (.getfield 210, 3) := by decide +kernel
theorem dX11_takeSignal_98 : decode cX11_takeSignal 98 = .ok (.iconst 2, 1) := by decide +kernel
theorem dX11_takeSignal_99 : decode cX11_takeSignal 99 = .ok (.if_icmp .ne 47, 3) := by decide +kernel
theorem dX11_takeSignal_102 : decode cX11_takeSignal 102 = .ok (.aload_n 0, 1) := by decide +kernel
theorem dX11_takeSignal_103 : decode cX11_takeSignal 103 = .ok (.aload 5, 2) := by decide +kernel
theorem dX11_takeSignal_105 : decode cX11_takeSignal 105 = .ok (.aload_n 0, 1) := by decide +kernel
theorem dX11_takeSignal_106 : decode cX11_takeSignal 106 = .ok (.aload 5, 2) := by decide +kernel
theorem dX11_takeSignal_108 : decode cX11_takeSignal 108 = .ok (.invokevirtual 390, 3) := by decide +kernel
theorem dX11_takeSignal_111 : decode cX11_takeSignal 111 = .ok (.invokevirtual 394, 3) := by decide +kernel
theorem dX11_takeSignal_114 : decode cX11_takeSignal 114 = .ok (.goto 32, 3) := by decide +kernel
theorem dX11_takeSignal_117 : decode cX11_takeSignal 117 = .ok (.aload_n 0, 1) := by decide +kernel
theorem dX11_takeSignal_118 : decode cX11_takeSignal 118 = .ok (.aload_n 1, 1) := by decide +kernel
theorem dX11_takeSignal_119 : decode cX11_takeSignal 119 = .ok (.aload_n 2, 1) := by decide +kernel
theorem dX11_takeSignal_120 : decode cX11_takeSignal 120 = .ok (.lload_n 3, 1) := by decide +kernel
theorem dX11_takeSignal_121 : decode cX11_takeSignal 121 = .ok (.invokestatic 397, 3) := by decide +kernel
theorem dX11_takeSignal_124 : decode cX11_takeSignal 124 = .ok (.invokevirtual 400, 3) := by decide +kernel
theorem dX11_takeSignal_127 : decode cX11_takeSignal 127 = .ok (.goto 19, 3) := by decide +kernel
theorem dX11_takeSignal_130 : decode cX11_takeSignal 130 = .ok (.aload_n 2, 1) := by decide +kernel
theorem dX11_takeSignal_131 : decode cX11_takeSignal 131 = .ok (.getfield 250, 3) := by decide +kernel
theorem dX11_takeSignal_134 : decode cX11_takeSignal 134 = .ok (.iconst 3, 1) := by decide +kernel
theorem dX11_takeSignal_135 : decode cX11_takeSignal 135 = .ok (.if_icmp .ne 11, 3) := by decide +kernel
theorem dX11_takeSignal_138 : decode cX11_takeSignal 138 = .ok (.aload_n 2, 1) := by decide +kernel
theorem dX11_takeSignal_139 : decode cX11_takeSignal 139 = .ok (.iconst 0, 1) := by decide +kernel
theorem dX11_takeSignal_140 : decode cX11_takeSignal 140 = .ok (.putfield 250, 3) := by decide +kernel
theorem dX11_takeSignal_143 : decode cX11_takeSignal 143 = .ok (.goto 3, 3) := by decide +kernel
theorem dX11_takeSignal_146 : decode cX11_takeSignal 146 = .ok (.return_, 1) := by decide +kernel
theorem dX11_takeRelease_0 : decode cX11_takeRelease 0 = .ok (.aload_n 2, 1) := by decide +kernel
theorem dX11_takeRelease_1 : decode cX11_takeRelease 1 = .ok (.getfield 250, 3) := by decide +kernel
theorem dX11_takeRelease_4 : decode cX11_takeRelease 4 = .ok (.ifCond .ne 4, 3) := by decide +kernel
theorem dX11_takeRelease_7 : decode cX11_takeRelease 7 = .ok (.return_, 1) := by decide +kernel
theorem dX11_takeRelease_8 : decode cX11_takeRelease 8 = .ok (.aload_n 1, 1) := by decide +kernel
theorem dX11_takeRelease_9 : decode cX11_takeRelease 9 = .ok (.getfield 261, 3) := by decide +kernel
theorem dX11_takeRelease_12 : decode cX11_takeRelease 12 = .ok (.iconst 5, 1) := by decide +kernel
theorem dX11_takeRelease_13 : decode cX11_takeRelease 13 = .ok (.aload_n 2, 1) := by decide +kernel
theorem dX11_takeRelease_14 : decode cX11_takeRelease 14 = .ok (.getfield 320, 3) := by decide +kernel
theorem dX11_takeRelease_17 : decode cX11_takeRelease 17 = .ok (.lconst 0, 1) := by decide +kernel
theorem dX11_takeRelease_18 : decode cX11_takeRelease 18 = .ok (.invokestatic 404, 3) := by decide +kernel
theorem dX11_takeRelease_21 : decode cX11_takeRelease 21 = .ok (.invokevirtual 408, 3) := by decide +kernel
theorem dX11_takeRelease_24 : decode cX11_takeRelease 24 = .ok (.aload_n 2, 1) := by decide +kernel
theorem dX11_takeRelease_25 : decode cX11_takeRelease 25 = .ok (.getfield 250, 3) := by decide +kernel
theorem dX11_takeRelease_28 : decode cX11_takeRelease 28 = .ok (.iconst 3, 1) := by decide +kernel
theorem dX11_takeRelease_29 : decode cX11_takeRelease 29 = .ok (.if_icmp .ne 4, 3) := by decide +kernel
theorem dX11_takeRelease_32 : decode cX11_takeRelease 32 = .ok (.return_, 1) := by decide +kernel
theorem dX11_takeRelease_33 : decode cX11_takeRelease 33 = .ok (.aload_n 2, 1) := by decide +kernel
theorem dX11_takeRelease_34 : decode cX11_takeRelease 34 = .ok (.getfield 352, 3) := by decide +kernel
theorem dX11_takeRelease_37 : decode cX11_takeRelease 37 = .ok (.astore 4, 2) := by decide +kernel
theorem dX11_takeRelease_39 : decode cX11_takeRelease 39 = .ok (.aload_n 2, 1) := by decide +kernel
theorem dX11_takeRelease_40 : decode cX11_takeRelease 40 = .ok (.iconst 0, 1) := by decide +kernel
theorem dX11_takeRelease_41 : decode cX11_takeRelease 41 = .ok (.putfield 250, 3) := by decide +kernel
theorem dX11_takeRelease_44 : decode cX11_takeRelease 44 = .ok (.aload_n 2, 1) := by decide +kernel
theorem dX11_takeRelease_45 : decode cX11_takeRelease 45 = .ok (.aconst_null, 1) := by decide +kernel
theorem dX11_takeRelease_46 : decode cX11_takeRelease 46 = .ok (.putfield 352, 3) := by decide +kernel
theorem dX11_takeRelease_49 : decode cX11_takeRelease 49 = .ok (.aload 4, 2) := by decide +kernel
theorem dX11_takeRelease_51 : decode cX11_takeRelease 51 = .ok (.ifnull 24, 3) := by decide +kernel
theorem dX11_takeRelease_54 : decode cX11_takeRelease 54 = .ok (.aload_n 0, 1) := by decide +kernel
theorem dX11_takeRelease_55 : decode cX11_takeRelease 55 = .ok (.aload 4, 2) := by decide +kernel
theorem dX11_takeRelease_57 : decode cX11_takeRelease 57 = .ok (.iload_n 3, 1) := by decide +kernel
theorem dX11_takeRelease_58 : decode cX11_takeRelease 58 = .ok (.aload 4, 2) := by decide +kernel
theorem dX11_takeRelease_60 : decode cX11_takeRelease 60 = .ok (.getfield 227, 3) := by decide +kernel
theorem dX11_takeRelease_63 : decode cX11_takeRelease 63 = .ok (.aload_n 2, 1) := by decide +kernel
theorem dX11_takeRelease_64 : decode cX11_takeRelease 64 = .ok (.if_acmp .ne 7, 3) := by decide +kernel
theorem dX11_takeRelease_67 : decode cX11_takeRelease 67 = .ok (.iconst 1, 1) := by decide +kernel
theorem dX11_takeRelease_68 : decode cX11_takeRelease 68 = .ok (.goto 4, 3) := by decide +kernel
theorem dX11_takeRelease_71 : decode cX11_takeRelease 71 = .ok (.iconst 2, 1) := by decide +kernel
theorem dX11_takeRelease_72 : decode cX11_takeRelease 72 = .ok (.invokevirtual 375, 3) := by decide +kernel
theorem dX11_takeRelease_75 : decode cX11_takeRelease 75 = .ok (.return_, 1) := by decide +kernel
theorem dX11_watchLines_0 : decode cX11_watchLines 0 = .ok (.iconst 0, 1) := by decide +kernel
theorem dX11_watchLines_1 : decode cX11_watchLines 1 = .ok (.istore_n 1, 1) := by decide +kernel
theorem dX11_watchLines_2 : decode cX11_watchLines 2 = .ok (.iload_n 1, 1) := by decide +kernel
theorem dX11_watchLines_3 : decode cX11_watchLines 3 = .ok (.bipush 16, 2) := by decide +kernel
theorem dX11_watchLines_5 : decode cX11_watchLines 5 = .ok (.if_icmp .ge 76, 3) := by decide +kernel
theorem dX11_watchLines_8 : decode cX11_watchLines 8 = .ok (.aload_n 0, 1) := by decide +kernel
theorem dX11_watchLines_9 : decode cX11_watchLines 9 = .ok (.getfield 17, 3) := by decide +kernel
theorem dX11_watchLines_12 : decode cX11_watchLines 12 = .ok (.iload_n 1, 1) := by decide +kernel
theorem dX11_watchLines_13 : decode cX11_watchLines 13 = .ok (.aaload, 1) := by decide +kernel
theorem dX11_watchLines_14 : decode cX11_watchLines 14 = .ok (.astore_n 2, 1) := by decide +kernel
theorem dX11_watchLines_15 : decode cX11_watchLines 15 = .ok (.aload_n 2, 1) := by decide +kernel
theorem dX11_watchLines_16 : decode cX11_watchLines 16 = .ok (.invokevirtual 412, 3) := by decide +kernel
theorem dX11_watchLines_19 : decode cX11_watchLines 19 = .ok (.istore_n 3, 1) := by decide +kernel
theorem dX11_watchLines_20 : decode cX11_watchLines 20 = .ok (.iload_n 3, 1) := by decide +kernel
theorem dX11_watchLines_21 : decode cX11_watchLines 21 = .ok (.iconst 1, 1) := by decide +kernel
theorem dX11_watchLines_22 : decode cX11_watchLines 22 = .ok (.if_icmp .ne 11, 3) := by decide +kernel
theorem dX11_watchLines_25 : decode cX11_watchLines 25 = .ok (.aload_n 0, 1) := by decide +kernel
theorem dX11_watchLines_26 : decode cX11_watchLines 26 = .ok (.aload_n 2, 1) := by decide +kernel
theorem dX11_watchLines_27 : decode cX11_watchLines 27 = .ok (.invokevirtual 415, 3) := by decide +kernel
theorem dX11_watchLines_30 : decode cX11_watchLines 30 = .ok (.goto 45, 3) := by decide +kernel
theorem dX11_watchLines_33 : decode cX11_watchLines 33 = .ok (.iload_n 3, 1) := by decide +kernel
theorem dX11_watchLines_34 : decode cX11_watchLines 34 = .ok (.iconst 2, 1) := by decide +kernel
theorem dX11_watchLines_35 : decode cX11_watchLines 35 = .ok (.if_icmp .ne 11, 3) := by decide +kernel
theorem dX11_watchLines_38 : decode cX11_watchLines 38 = .ok (.aload_n 0, 1) := by decide +kernel
theorem dX11_watchLines_39 : decode cX11_watchLines 39 = .ok (.aload_n 2, 1) := by decide +kernel
theorem dX11_watchLines_40 : decode cX11_watchLines 40 = .ok (.invokevirtual 419, 3) := by decide +kernel
theorem dX11_watchLines_43 : decode cX11_watchLines 43 = .ok (.goto 32, 3) := by decide +kernel
theorem dX11_watchLines_46 : decode cX11_watchLines 46 = .ok (.iload_n 3, 1) := by decide +kernel
theorem dX11_watchLines_47 : decode cX11_watchLines 47 = .ok (.iconst 3, 1) := by decide +kernel
theorem dX11_watchLines_48 : decode cX11_watchLines 48 = .ok (.if_icmp .ne 8, 3) := by decide +kernel
theorem dX11_watchLines_51 : decode cX11_watchLines 51 = .ok (.aload_n 0, 1) := by decide +kernel
theorem dX11_watchLines_52 : decode cX11_watchLines 52 = .ok (.aload_n 2, 1) := by decide +kernel
theorem dX11_watchLines_53 : decode cX11_watchLines 53 = .ok (.invokevirtual 422, 3) := by decide +kernel
theorem dX11_watchLines_56 : decode cX11_watchLines 56 = .ok (.aload_n 2, 1) := by decide +kernel
theorem dX11_watchLines_57 : decode cX11_watchLines 57 = .ok (.invokevirtual 425, 3) := by decide +kernel
theorem dX11_watchLines_60 : decode cX11_watchLines 60 = .ok (.istore 4, 2) := by decide +kernel
theorem dX11_watchLines_62 : decode cX11_watchLines 62 = .ok (.iload 4, 2) := by decide +kernel
theorem dX11_watchLines_64 : decode cX11_watchLines 64 = .ok (.iconst (-1), 1) := by decide +kernel
theorem dX11_watchLines_65 : decode cX11_watchLines 65 = .ok (.if_icmp .eq 10, 3) := by decide +kernel
theorem dX11_watchLines_68 : decode cX11_watchLines 68 = .ok (.aload_n 0, 1) := by decide +kernel
theorem dX11_watchLines_69 : decode cX11_watchLines 69 = .ok (.aload_n 2, 1) := by decide +kernel
theorem dX11_watchLines_70 : decode cX11_watchLines 70 = .ok (.iload 4, 2) := by decide +kernel
theorem dX11_watchLines_72 : decode cX11_watchLines 72 = .ok (.invokevirtual 428, 3) := by decide +kernel
theorem dX11_watchLines_75 : decode cX11_watchLines 75 = .ok (.iinc 1 1, 3) := by decide +kernel
theorem dX11_watchLines_78 : decode cX11_watchLines 78 = .ok (.goto (-76), 3) := by decide +kernel
theorem dX11_watchLines_81 : decode cX11_watchLines 81 = .ok (.return_, 1) := by decide +kernel
theorem dX11_lift_0 : decode cX11_lift 0 = .ok (.aload_n 1, 1) := by decide +kernel
theorem dX11_lift_1 : decode cX11_lift 1 = .ok (.iconst 0, 1) := by decide +kernel
theorem dX11_lift_2 : decode cX11_lift 2 = .ok (.putfield 219, 3) := by decide +kernel
theorem dX11_lift_5 : decode cX11_lift 5 = .ok (.aload_n 1, 1) := by decide +kernel
theorem dX11_lift_6 : decode cX11_lift 6 = .ok (.getfield 432, 3) := by decide +kernel
theorem dX11_lift_9 : decode cX11_lift 9 = .ok (.astore_n 2, 1) := by decide +kernel
theorem dX11_lift_10 : decode cX11_lift 10 = .ok (.aload_n 2, 1) := by decide +kernel
theorem dX11_lift_11 : decode cX11_lift 11 = .ok (.ifnull 24, 3) := by decide +kernel
theorem dX11_lift_14 : decode cX11_lift 14 = .ok (.aload_n 1, 1) := by decide +kernel
theorem dX11_lift_15 : decode cX11_lift 15 = .ok (.aconst_null, 1) := by decide +kernel
theorem dX11_lift_16 : decode cX11_lift 16 = .ok (.putfield 432, 3) := by decide +kernel
theorem dX11_lift_19 : decode cX11_lift 19 = .ok (.aload_n 1, 1) := by decide +kernel
theorem dX11_lift_20 : decode cX11_lift 20 = .ok (.aload_n 2, 1) := by decide +kernel
theorem dX11_lift_21 : decode cX11_lift 21 = .ok (.putfield 206, 3) := by decide +kernel
theorem dX11_lift_24 : decode cX11_lift 24 = .ok (.aload_n 0, 1) := by decide +kernel
theorem dX11_lift_25 : decode cX11_lift 25 = .ok (.aload_n 2, 1) := by decide +kernel
theorem dX11_lift_26 : decode cX11_lift 26 = .ok (.aload_n 0, 1) := by decide +kernel
theorem dX11_lift_27 : decode cX11_lift 27 = .ok (.aload_n 2, 1) := by decide +kernel
theorem dX11_lift_28 : decode cX11_lift 28 = .ok (.invokevirtual 390, 3) := by decide +kernel
theorem dX11_lift_31 : decode cX11_lift 31 = .ok (.invokevirtual 394, 3) := by decide +kernel
theorem dX11_lift_34 : decode cX11_lift 34 = .ok (.return_, 1) := by decide +kernel
theorem dX11_lift_35 : decode cX11_lift 35 = .ok (.aload_n 0, 1) := by decide +kernel
theorem dX11_lift_36 : decode cX11_lift 36 = .ok (.aload_n 0, 1) := by decide +kernel
theorem dX11_lift_37 : decode cX11_lift 37 = .ok (.getfield 11, 3) := by decide +kernel
theorem dX11_lift_40 : decode cX11_lift 40 = .ok (.aload_n 1, 1) := by decide +kernel
theorem dX11_lift_41 : decode cX11_lift 41 = .ok (.getfield 317, 3) := by decide +kernel
theorem dX11_lift_44 : decode cX11_lift 44 = .ok (.bipush 8, 2) := by decide +kernel
theorem dX11_lift_46 : decode cX11_lift 46 = .ok (.idiv, 1) := by decide +kernel
theorem dX11_lift_47 : decode cX11_lift 47 = .ok (.aaload, 1) := by decide +kernel
theorem dX11_lift_48 : decode cX11_lift 48 = .ok (.invokevirtual 359, 3) := by decide +kernel
theorem dX11_lift_51 : decode cX11_lift 51 = .ok (.astore_n 2, 1) := by decide +kernel
theorem dX11_lift_52 : decode cX11_lift 52 = .ok (.aload_n 2, 1) := by decide +kernel
theorem dX11_lift_53 : decode cX11_lift 53 = .ok (.ifnull 13, 3) := by decide +kernel
theorem dX11_lift_56 : decode cX11_lift 56 = .ok (.aload_n 2, 1) := by decide +kernel
theorem dX11_lift_57 : decode cX11_lift 57 = .ok (.aload_n 1, 1) := by decide +kernel
theorem dX11_lift_58 : decode cX11_lift 58 = .ok (.putfield 223, 3) := by decide +kernel
theorem dX11_lift_61 : decode cX11_lift 61 = .ok (.aload_n 1, 1) := by decide +kernel
theorem dX11_lift_62 : decode cX11_lift 62 = .ok (.aload_n 2, 1) := by decide +kernel
theorem dX11_lift_63 : decode cX11_lift 63 = .ok (.putfield 206, 3) := by decide +kernel
theorem dX11_lift_66 : decode cX11_lift 66 = .ok (.return_, 1) := by decide +kernel
theorem dX11_hang_0 : decode cX11_hang 0 = .ok (.aload_n 1, 1) := by decide +kernel
theorem dX11_hang_1 : decode cX11_hang 1 = .ok (.getfield 206, 3) := by decide +kernel
theorem dX11_hang_4 : decode cX11_hang 4 = .ok (.astore_n 2, 1) := by decide +kernel
theorem dX11_hang_5 : decode cX11_hang 5 = .ok (.aload_n 1, 1) := by decide +kernel
theorem dX11_hang_6 : decode cX11_hang 6 = .ok (.getfield 213, 3) := by decide +kernel
theorem dX11_hang_9 : decode cX11_hang 9 = .ok (.astore_n 3, 1) := by decide +kernel
theorem dX11_hang_10 : decode cX11_hang 10 = .ok (.aload_n 1, 1) := by decide +kernel
theorem dX11_hang_11 : decode cX11_hang 11 = .ok (.aconst_null, 1) := by decide +kernel
theorem dX11_hang_12 : decode cX11_hang 12 = .ok (.putfield 206, 3) := by decide +kernel
theorem dX11_hang_15 : decode cX11_hang 15 = .ok (.aload_n 1, 1) := by decide +kernel
theorem dX11_hang_16 : decode cX11_hang 16 = .ok (.aconst_null, 1) := by decide +kernel
theorem dX11_hang_17 : decode cX11_hang 17 = .ok (.putfield 213, 3) := by decide +kernel
theorem dX11_hang_20 : decode cX11_hang 20 = .ok (.aload_n 2, 1) := by decide +kernel
theorem dX11_hang_21 : decode cX11_hang 21 = .ok (.ifnull 23, 3) := by decide +kernel
theorem dX11_hang_24 : decode cX11_hang 24 = .ok (.aload_n 0, 1) := by decide +kernel
theorem dX11_hang_25 : decode cX11_hang 25 = .ok (.aload_n 2, 1) := by decide +kernel
theorem dX11_hang_26 : decode cX11_hang 26 = .ok (.bipush 7, 2) := by decide +kernel
theorem dX11_hang_28 : decode cX11_hang 28 = .ok (.aload_n 2, 1) := by decide +kernel
theorem dX11_hang_29 : decode cX11_hang 29 = .ok (.getfield 223, 3) := by decide +kernel
theorem dX11_hang_32 : decode cX11_hang 32 = .ok (.aload_n 1, 1) := by decide +kernel
theorem dX11_hang_33 : decode cX11_hang 33 = .ok (.if_acmp .ne 7, 3) := by decide +kernel
theorem dX11_hang_36 : decode cX11_hang 36 = .ok (.iconst 1, 1) := by decide +kernel
theorem dX11_hang_37 : decode cX11_hang 37 = .ok (.goto 4, 3) := by decide +kernel
theorem dX11_hang_40 : decode cX11_hang 40 = .ok (.iconst 2, 1) := by decide +kernel
theorem dX11_hang_41 : decode cX11_hang 41 = .ok (.invokevirtual 375, 3) := by decide +kernel
theorem dX11_hang_44 : decode cX11_hang 44 = .ok (.aload_n 3, 1) := by decide +kernel
theorem dX11_hang_45 : decode cX11_hang 45 = .ok (.ifnull 23, 3) := by decide +kernel
theorem dX11_hang_48 : decode cX11_hang 48 = .ok (.aload_n 0, 1) := by decide +kernel
theorem dX11_hang_49 : decode cX11_hang 49 = .ok (.aload_n 3, 1) := by decide +kernel
theorem dX11_hang_50 : decode cX11_hang 50 = .ok (.bipush 7, 2) := by decide +kernel
theorem dX11_hang_52 : decode cX11_hang 52 = .ok (.aload_n 3, 1) := by decide +kernel
theorem dX11_hang_53 : decode cX11_hang 53 = .ok (.getfield 223, 3) := by decide +kernel
theorem dX11_hang_56 : decode cX11_hang 56 = .ok (.aload_n 1, 1) := by decide +kernel
theorem dX11_hang_57 : decode cX11_hang 57 = .ok (.if_acmp .ne 7, 3) := by decide +kernel
theorem dX11_hang_60 : decode cX11_hang 60 = .ok (.iconst 1, 1) := by decide +kernel
theorem dX11_hang_61 : decode cX11_hang 61 = .ok (.goto 4, 3) := by decide +kernel
theorem dX11_hang_64 : decode cX11_hang 64 = .ok (.iconst 2, 1) := by decide +kernel
theorem dX11_hang_65 : decode cX11_hang 65 = .ok (.invokevirtual 375, 3) := by decide +kernel
theorem dX11_hang_68 : decode cX11_hang 68 = .ok (.aload_n 1, 1) := by decide +kernel
theorem dX11_hang_69 : decode cX11_hang 69 = .ok (.iconst 0, 1) := by decide +kernel
theorem dX11_hang_70 : decode cX11_hang 70 = .ok (.putfield 435, 3) := by decide +kernel
theorem dX11_hang_73 : decode cX11_hang 73 = .ok (.aload_n 1, 1) := by decide +kernel
theorem dX11_hang_74 : decode cX11_hang 74 = .ok (.aload_n 0, 1) := by decide +kernel
theorem dX11_hang_75 : decode cX11_hang 75 = .ok (.getfield 177, 3) := by decide +kernel
theorem dX11_hang_78 : decode cX11_hang 78 = .ok (.putfield 438, 3) := by decide +kernel
theorem dX11_hang_81 : decode cX11_hang 81 = .ok (.return_, 1) := by decide +kernel
theorem dX11_flash_0 : decode cX11_flash 0 = .ok (.aload_n 1, 1) := by decide +kernel
theorem dX11_flash_1 : decode cX11_flash 1 = .ok (.getfield 213, 3) := by decide +kernel
theorem dX11_flash_4 : decode cX11_flash 4 = .ok (.astore_n 2, 1) := by decide +kernel
theorem dX11_flash_5 : decode cX11_flash 5 = .ok (.aload_n 2, 1) := by decide +kernel
theorem dX11_flash_6 : decode cX11_flash 6 = .ok (.ifnonnull 4, 3) := by decide +kernel
theorem dX11_flash_9 : decode cX11_flash 9 = .ok (.return_, 1) := by decide +kernel
theorem dX11_flash_10 : decode cX11_flash 10 = .ok (.aload_n 1, 1) := by decide +kernel
theorem dX11_flash_11 : decode cX11_flash 11 = .ok (.aload_n 1, 1) := by decide +kernel
theorem dX11_flash_12 : decode cX11_flash 12 = .ok (.getfield 206, 3) := by decide +kernel
theorem dX11_flash_15 : decode cX11_flash 15 = .ok (.putfield 213, 3) := by decide +kernel
theorem dX11_flash_18 : decode cX11_flash 18 = .ok (.aload_n 1, 1) := by decide +kernel
theorem dX11_flash_19 : decode cX11_flash 19 = .ok (.aload_n 2, 1) := by decide +kernel
theorem dX11_flash_20 : decode cX11_flash 20 = .ok (.putfield 206, 3) := by decide +kernel
theorem dX11_flash_23 : decode cX11_flash 23 = .ok (.aload_n 2, 1) := by decide +kernel
theorem dX11_flash_24 : decode cX11_flash 24 = .ok (.getfield 210, 3) := by decide +kernel
theorem dX11_flash_27 : decode cX11_flash 27 = .ok (.iconst 2, 1) := by decide +kernel
theorem dX11_flash_28 : decode cX11_flash 28 = .ok (.if_icmp .ne 13, 3) := by decide +kernel
theorem dX11_flash_31 : decode cX11_flash 31 = .ok (.aload_n 0, 1) := by decide +kernel
theorem dX11_flash_32 : decode cX11_flash 32 = .ok (.aload_n 2, 1) := by decide +kernel
theorem dX11_flash_33 : decode cX11_flash 33 = .ok (.aload_n 0, 1) := by decide +kernel
theorem dX11_flash_34 : decode cX11_flash 34 = .ok (.aload_n 2, 1) := by decide +kernel
theorem dX11_flash_35 : decode cX11_flash 35 = .ok (.invokevirtual 390, 3) := by decide +kernel
theorem dX11_flash_38 : decode cX11_flash 38 = .ok (.invokevirtual 394, 3) := by decide +kernel
theorem dX11_flash_41 : decode cX11_flash 41 = .ok (.return_, 1) := by decide +kernel
theorem dX11_takeKey_0 : decode cX11_takeKey 0 = .ok (.aload_n 1, 1) := by decide +kernel
theorem dX11_takeKey_1 : decode cX11_takeKey 1 = .ok (.getfield 206, 3) := by decide +kernel
theorem dX11_takeKey_4 : decode cX11_takeKey 4 = .ok (.astore_n 3, 1) := by decide +kernel
theorem dX11_takeKey_5 : decode cX11_takeKey 5 = .ok (.aload_n 3, 1) := by decide +kernel
theorem dX11_takeKey_6 : decode cX11_takeKey 6 = .ok (.ifnull 22, 3) := by decide +kernel
theorem dX11_takeKey_9 : decode cX11_takeKey 9 = .ok (.aload_n 3, 1) := by decide +kernel
theorem dX11_takeKey_10 : decode cX11_takeKey 10 = .ok (.getfield 210, 3) := by decide +kernel
theorem dX11_takeKey_13 : decode cX11_takeKey 13 = .ok (.ifCond .ne 15, 3) := by decide +kernel
theorem dX11_takeKey_16 : decode cX11_takeKey 16 = .ok (.aload_n 3, 1) := by decide +kernel
theorem dX11_takeKey_17 : decode cX11_takeKey 17 = .ok (.getfield 222, 3) := by decide +kernel
theorem dX11_takeKey_20 : decode cX11_takeKey 20 = .ok (.invokestatic 83, 3) := by decide +kernel
theorem dX11_takeKey_23 : decode cX11_takeKey 23 = .ok (.bipush 12, 2) := by decide +kernel
theorem dX11_takeKey_25 : decode cX11_takeKey 25 = .ok (.if_icmp .lt 4, 3) := by decide +kernel
theorem dX11_takeKey_28 : decode cX11_takeKey 28 = .ok (.return_, 1) := by decide +kernel
theorem dX11_takeKey_29 : decode cX11_takeKey 29 = .ok (.aload_n 3, 1) := by decide +kernel
theorem dX11_takeKey_30 : decode cX11_takeKey 30 = .ok (.aload_n 3, 1) := by decide +kernel
theorem dX11_takeKey_31 : decode cX11_takeKey 31 = .ok (.getfield 222, 3) := by decide +kernel
theorem dX11_takeKey_34 : decode cX11_takeKey 34 = .ok (.iload_n 2, 1) := by decide +kernel
theorem dX11_takeKey_35 : decode cX11_takeKey 35 = .ok (.invokestatic 87, 3) := by decide +kernel
theorem dX11_takeKey_38 : decode cX11_takeKey 38 = .ok (.putfield 222, 3) := by decide +kernel
theorem dX11_takeKey_41 : decode cX11_takeKey 41 = .ok (.aload_n 3, 1) := by decide +kernel
theorem dX11_takeKey_42 : decode cX11_takeKey 42 = .ok (.aload_n 0, 1) := by decide +kernel
theorem dX11_takeKey_43 : decode cX11_takeKey 43 = .ok (.getfield 177, 3) := by decide +kernel
theorem dX11_takeKey_46 : decode cX11_takeKey 46 = .ok (.putfield 441, 3) := by decide +kernel
theorem dX11_takeKey_49 : decode cX11_takeKey 49 = .ok (.aload_n 3, 1) := by decide +kernel
theorem dX11_takeKey_50 : decode cX11_takeKey 50 = .ok (.getfield 444, 3) := by decide +kernel
theorem dX11_takeKey_53 : decode cX11_takeKey 53 = .ok (.aload_n 3, 1) := by decide +kernel
theorem dX11_takeKey_54 : decode cX11_takeKey 54 = .ok (.getfield 222, 3) := by decide +kernel
theorem dX11_takeKey_57 : decode cX11_takeKey 57 = .ok (.invokevirtual 372, 3) := by decide +kernel
theorem dX11_takeKey_60 : decode cX11_takeKey 60 = .ok (.istore 4, 2) := by decide +kernel
theorem dX11_takeKey_62 : decode cX11_takeKey 62 = .ok (.iload 4, 2) := by decide +kernel
theorem dX11_takeKey_64 : decode cX11_takeKey 64 = .ok (.bipush (-2), 2) := by decide +kernel
theorem dX11_takeKey_66 : decode cX11_takeKey 66 = .ok (.if_icmp .ne 13, 3) := by decide +kernel
theorem dX11_takeKey_69 : decode cX11_takeKey 69 = .ok (.aload_n 0, 1) := by decide +kernel
theorem dX11_takeKey_70 : decode cX11_takeKey 70 = .ok (.aload_n 3, 1) := by decide +kernel
theorem dX11_takeKey_71 : decode cX11_takeKey 71 = .ok (.iconst 1, 1) := by decide +kernel
theorem dX11_takeKey_72 : decode cX11_takeKey 72 = .ok (.iconst 0, 1) := by decide +kernel
theorem dX11_takeKey_73 : decode cX11_takeKey 73 = .ok (.invokevirtual 375, 3) := by decide +kernel
theorem dX11_takeKey_76 : decode cX11_takeKey 76 = .ok (.goto 40, 3) := by decide +kernel
theorem dX11_takeKey_79 : decode cX11_takeKey 79 = .ok (.iload 4, 2) := by decide +kernel
theorem dX11_takeKey_81 : decode cX11_takeKey 81 = .ok (.iconst (-1), 1) := by decide +kernel
theorem dX11_takeKey_82 : decode cX11_takeKey 82 = .ok (.if_icmp .eq 34, 3) := by decide +kernel
theorem dX11_takeKey_85 : decode cX11_takeKey 85 = .ok (.aload_n 3, 1) := by decide +kernel
theorem dX11_takeKey_86 : decode cX11_takeKey 86 = .ok (.aload_n 3, 1) := by decide +kernel
theorem dX11_takeKey_87 : decode cX11_takeKey 87 = .ok (.getfield 444, 3) := by decide +kernel
theorem dX11_takeKey_90 : decode cX11_takeKey 90 = .ok (.getfield 106, 3) := by decide +kernel
theorem dX11_takeKey_93 : decode cX11_takeKey 93 = .ok (.iload 4, 2) := by decide +kernel
theorem dX11_takeKey_95 : decode cX11_takeKey 95 = .ok (.aaload, 1) := by decide +kernel
theorem dX11_takeKey_96 : decode cX11_takeKey 96 = .ok (.putfield 379, 3) := by decide +kernel
theorem dX11_takeKey_99 : decode cX11_takeKey 99 = .ok (.aload_n 3, 1) := by decide +kernel
theorem dX11_takeKey_100 : decode cX11_takeKey 100 = .ok (.aload_n 3, 1) := by decide +kernel
theorem dX11_takeKey_101 : decode cX11_takeKey 101 = .ok (.getfield 379, 3) := by decide +kernel
theorem dX11_takeKey_104 : decode cX11_takeKey 104 = .ok (.getfield 448, 3) := by decide +kernel
theorem dX11_takeKey_107 : decode cX11_takeKey 107 = .ok (.putfield 451, 3) := by decide +kernel
theorem dX11_takeKey_110 : decode cX11_takeKey 110 = .ok (.aload_n 0, 1) := by decide +kernel
theorem dX11_takeKey_111 : decode cX11_takeKey 111 = .ok (.aload_n 3, 1) := by decide +kernel
theorem dX11_takeKey_112 : decode cX11_takeKey 112 = .ok (.iconst (-1), 1) := by decide +kernel
theorem dX11_takeKey_113 : decode cX11_takeKey 113 = .ok (.invokevirtual 355, 3) := by decide +kernel
theorem dX11_takeKey_116 : decode cX11_takeKey 116 = .ok (.return_, 1) := by decide +kernel
theorem dX11_makeCall_0 : decode cX11_makeCall 0 = .ok (.aload_n 0, 1) := by decide +kernel
theorem dX11_makeCall_1 : decode cX11_makeCall 1 = .ok (.getfield 452, 3) := by decide +kernel
theorem dX11_makeCall_4 : decode cX11_makeCall 4 = .ok (.bipush 72, 2) := by decide +kernel
theorem dX11_makeCall_6 : decode cX11_makeCall 6 = .ok (.if_icmp .lt 5, 3) := by decide +kernel
theorem dX11_makeCall_9 : decode cX11_makeCall 9 = .ok (.aconst_null, 1) := by decide +kernel
theorem dX11_makeCall_10 : decode cX11_makeCall 10 = .ok (.areturn, 1) := by decide +kernel
theorem dX11_makeCall_11 : decode cX11_makeCall 11 = .ok (.aload_n 0, 1) := by decide +kernel
theorem dX11_makeCall_12 : decode cX11_makeCall 12 = .ok (.getfield 23, 3) := by decide +kernel
theorem dX11_makeCall_15 : decode cX11_makeCall 15 = .ok (.aload_n 0, 1) := by decide +kernel
theorem dX11_makeCall_16 : decode cX11_makeCall 16 = .ok (.getfield 452, 3) := by decide +kernel
theorem dX11_makeCall_19 : decode cX11_makeCall 19 = .ok (.aaload, 1) := by decide +kernel
theorem dX11_makeCall_20 : decode cX11_makeCall 20 = .ok (.astore_n 2, 1) := by decide +kernel
theorem dX11_makeCall_21 : decode cX11_makeCall 21 = .ok (.aload_n 0, 1) := by decide +kernel
theorem dX11_makeCall_22 : decode cX11_makeCall 22 = .ok (.dup, 1) := by decide +kernel
theorem dX11_makeCall_23 : decode cX11_makeCall 23 = .ok (.getfield 452, 3) := by decide +kernel
theorem dX11_makeCall_26 : decode cX11_makeCall 26 = .ok (.iconst 1, 1) := by decide +kernel
theorem dX11_makeCall_27 : decode cX11_makeCall 27 = .ok (.iadd, 1) := by decide +kernel
