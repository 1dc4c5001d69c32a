theorem dX10_readBody_92 : decode cX10_readBody 92 = .ok (.goto (-82), 3) := by decide +kernel
theorem dX10_readBody_95 : decode cX10_readBody 95 = .ok (.iconst 0, 1) := by decide +kernel
theorem dX10_readBody_96 : decode cX10_readBody 96 = .ok (.ireturn, 1) := by decide +kernel
theorem dX10_number_0 : decode cX10_number 0 = .ok (.iconst 0, 1) := by decide +kernel
theorem dX10_number_1 : decode cX10_number 1 = .ok (.istore_n 3, 1) := by decide +kernel
theorem dX10_number_2 : decode cX10_number 2 = .ok (.iconst 0, 1) := by decide +kernel
theorem dX10_number_3 : decode cX10_number 3 = .ok (.istore 4, 2) := by decide +kernel
theorem dX10_number_5 : decode cX10_number 5 = .ok (.iload 4, 2) := by decide +kernel
theorem dX10_number_7 : decode cX10_number 7 = .ok (.iload_n 2, 1) := by decide +kernel
theorem dX10_number_8 : decode cX10_number 8 = .ok (.if_icmp .ge 40, 3) := by decide +kernel
theorem dX10_number_11 : decode cX10_number 11 = .ok (.iload_n 1, 1) := by decide +kernel
theorem dX10_number_12 : decode cX10_number 12 = .ok (.iload 4, 2) := by decide +kernel
theorem dX10_number_14 : decode cX10_number 14 = .ok (.iadd, 1) := by decide +kernel
theorem dX10_number_15 : decode cX10_number 15 = .ok (.aload_n 0, 1) := by decide +kernel
theorem dX10_number_16 : decode cX10_number 16 = .ok (.getfield 79, 3) := by decide +kernel
theorem dX10_number_19 : decode cX10_number 19 = .ok (.if_icmp .ge 23, 3) := by decide +kernel
theorem dX10_number_22 : decode cX10_number 22 = .ok (.aload_n 0, 1) := by decide +kernel
theorem dX10_number_23 : decode cX10_number 23 = .ok (.getfield 15, 3) := by decide +kernel
theorem dX10_number_26 : decode cX10_number 26 = .ok (.iload_n 1, 1) := by decide +kernel
theorem dX10_number_27 : decode cX10_number 27 = .ok (.iload 4, 2) := by decide +kernel
theorem dX10_number_29 : decode cX10_number 29 = .ok (.iadd, 1) := by decide +kernel
theorem dX10_number_30 : decode cX10_number 30 = .ok (.baload, 1) := by decide +kernel
theorem dX10_number_31 : decode cX10_number 31 = .ok (.iconst 1, 1) := by decide +kernel
theorem dX10_number_32 : decode cX10_number 32 = .ok (.if_icmp .ne 10, 3) := by decide +kernel
theorem dX10_number_35 : decode cX10_number 35 = .ok (.iload_n 3, 1) := by decide +kernel
theorem dX10_number_36 : decode cX10_number 36 = .ok (.iconst 1, 1) := by decide +kernel
theorem dX10_number_37 : decode cX10_number 37 = .ok (.iload 4, 2) := by decide +kernel
theorem dX10_number_39 : decode cX10_number 39 = .ok (.ishl, 1) := by decide +kernel
theorem dX10_number_40 : decode cX10_number 40 = .ok (.ior, 1) := by decide +kernel
theorem dX10_number_41 : decode cX10_number 41 = .ok (.istore_n 3, 1) := by decide +kernel
theorem dX10_number_42 : decode cX10_number 42 = .ok (.iinc 4 1, 3) := by decide +kernel
theorem dX10_number_45 : decode cX10_number 45 = .ok (.goto (-40), 3) := by decide +kernel
theorem dX10_number_48 : decode cX10_number 48 = .ok (.iload_n 3, 1) := by decide +kernel
theorem dX10_number_49 : decode cX10_number 49 = .ok (.ireturn, 1) := by decide +kernel
theorem dX10_readByte_0 : decode cX10_readByte 0 = .ok (.aload_n 0, 1) := by decide +kernel
theorem dX10_readByte_1 : decode cX10_readByte 1 = .ok (.bipush 24, 2) := by decide +kernel
theorem dX10_readByte_3 : decode cX10_readByte 3 = .ok (.bipush 8, 2) := by decide +kernel
theorem dX10_readByte_5 : decode cX10_readByte 5 = .ok (.iload_n 1, 1) := by decide +kernel
theorem dX10_readByte_6 : decode cX10_readByte 6 = .ok (.imul, 1) := by decide +kernel
theorem dX10_readByte_7 : decode cX10_readByte 7 = .ok (.iadd, 1) := by decide +kernel
theorem dX10_readByte_8 : decode cX10_readByte 8 = .ok (.bipush 8, 2) := by decide +kernel
theorem dX10_readByte_10 : decode cX10_readByte 10 = .ok (.invokevirtual 82, 3) := by decide +kernel
theorem dX10_readByte_13 : decode cX10_readByte 13 = .ok (.ireturn, 1) := by decide +kernel
theorem dX10_readMessage_0 : decode cX10_readMessage 0 = .ok (.iload_n 1, 1) := by decide +kernel
theorem dX10_readMessage_1 : decode cX10_readMessage 1 = .ok (.ifCond .ne 7, 3) := by decide +kernel
theorem dX10_readMessage_4 : decode cX10_readMessage 4 = .ok (.ldc2_w 89, 3) := by decide +kernel
theorem dX10_readMessage_7 : decode cX10_readMessage 7 = .ok (.lreturn, 1) := by decide +kernel
theorem dX10_readMessage_8 : decode cX10_readMessage 8 = .ok (.aload_n 0, 1) := by decide +kernel
theorem dX10_readMessage_9 : decode cX10_readMessage 9 = .ok (.iconst 0, 1) := by decide +kernel
theorem dX10_readMessage_10 : decode cX10_readMessage 10 = .ok (.invokevirtual 91, 3) := by decide +kernel
theorem dX10_readMessage_13 : decode cX10_readMessage 13 = .ok (.istore_n 3, 1) := by decide +kernel
theorem dX10_readMessage_14 : decode cX10_readMessage 14 = .ok (.aload_n 0, 1) := by decide +kernel
theorem dX10_readMessage_15 : decode cX10_readMessage 15 = .ok (.iconst 1, 1) := by decide +kernel
theorem dX10_readMessage_16 : decode cX10_readMessage 16 = .ok (.invokevirtual 91, 3) := by decide +kernel
theorem dX10_readMessage_19 : decode cX10_readMessage 19 = .ok (.istore 4, 2) := by decide +kernel
theorem dX10_readMessage_21 : decode cX10_readMessage 21 = .ok (.iload_n 1, 1) := by decide +kernel
theorem dX10_readMessage_22 : decode cX10_readMessage 22 = .ok (.iconst 2, 1) := by decide +kernel
theorem dX10_readMessage_23 : decode cX10_readMessage 23 = .ok (.if_icmp .lt 8, 3) := by decide +kernel
theorem dX10_readMessage_26 : decode cX10_readMessage 26 = .ok (.iload_n 3, 1) := by decide +kernel
theorem dX10_readMessage_27 : decode cX10_readMessage 27 = .ok (.iload_n 2, 1) := by decide +kernel
theorem dX10_readMessage_28 : decode cX10_readMessage 28 = .ok (.if_icmp .lt 5, 3) := by decide +kernel
theorem dX10_readMessage_31 : decode cX10_readMessage 31 = .ok (.lconst 0, 1) := by decide +kernel
theorem dX10_readMessage_32 : decode cX10_readMessage 32 = .ok (.lreturn, 1) := by decide +kernel
theorem dX10_readMessage_33 : decode cX10_readMessage 33 = .ok (.iload 4, 2) := by decide +kernel
theorem dX10_readMessage_35 : decode cX10_readMessage 35 = .ok (.tableswitch 79 1 5 #[33, 62, 62, 40, 62], 33) := by decide +kernel
theorem dX10_readMessage_68 : decode cX10_readMessage 68 = .ok (.aload_n 0, 1) := by decide +kernel
theorem dX10_readMessage_69 : decode cX10_readMessage 69 = .ok (.iload_n 1, 1) := by decide +kernel
theorem dX10_readMessage_70 : decode cX10_readMessage 70 = .ok (.iload_n 3, 1) := by decide +kernel
theorem dX10_readMessage_71 : decode cX10_readMessage 71 = .ok (.invokevirtual 95, 3) := by decide +kernel
theorem dX10_readMessage_74 : decode cX10_readMessage 74 = .ok (.lreturn, 1) := by decide +kernel
theorem dX10_readMessage_75 : decode cX10_readMessage 75 = .ok (.iload_n 1, 1) := by decide +kernel
theorem dX10_readMessage_76 : decode cX10_readMessage 76 = .ok (.iconst 3, 1) := by decide +kernel
theorem dX10_readMessage_77 : decode cX10_readMessage 77 = .ok (.if_icmp .ne 18, 3) := by decide +kernel
theorem dX10_readMessage_80 : decode cX10_readMessage 80 = .ok (.iload 4, 2) := by decide +kernel
theorem dX10_readMessage_82 : decode cX10_readMessage 82 = .ok (.iload_n 3, 1) := by decide +kernel
theorem dX10_readMessage_83 : decode cX10_readMessage 83 = .ok (.aload_n 0, 1) := by decide +kernel
theorem dX10_readMessage_84 : decode cX10_readMessage 84 = .ok (.iconst 2, 1) := by decide +kernel
theorem dX10_readMessage_85 : decode cX10_readMessage 85 = .ok (.invokevirtual 91, 3) := by decide +kernel
theorem dX10_readMessage_88 : decode cX10_readMessage 88 = .ok (.i2l, 1) := by decide +kernel
theorem dX10_readMessage_89 : decode cX10_readMessage 89 = .ok (.invokestatic 98, 3) := by decide +kernel
theorem dX10_readMessage_92 : decode cX10_readMessage 92 = .ok (.goto 4, 3) := by decide +kernel
theorem dX10_readMessage_95 : decode cX10_readMessage 95 = .ok (.lconst 0, 1) := by decide +kernel
theorem dX10_readMessage_96 : decode cX10_readMessage 96 = .ok (.lreturn, 1) := by decide +kernel
theorem dX10_readMessage_97 : decode cX10_readMessage 97 = .ok (.iload_n 1, 1) := by decide +kernel
theorem dX10_readMessage_98 : decode cX10_readMessage 98 = .ok (.iconst 2, 1) := by decide +kernel
theorem dX10_readMessage_99 : decode cX10_readMessage 99 = .ok (.if_icmp .ne 13, 3) := by decide +kernel
theorem dX10_readMessage_102 : decode cX10_readMessage 102 = .ok (.iload 4, 2) := by decide +kernel
theorem dX10_readMessage_104 : decode cX10_readMessage 104 = .ok (.iload_n 3, 1) := by decide +kernel
theorem dX10_readMessage_105 : decode cX10_readMessage 105 = .ok (.lconst 0, 1) := by decide +kernel
theorem dX10_readMessage_106 : decode cX10_readMessage 106 = .ok (.invokestatic 98, 3) := by decide +kernel
theorem dX10_readMessage_109 : decode cX10_readMessage 109 = .ok (.goto 4, 3) := by decide +kernel
theorem dX10_readMessage_112 : decode cX10_readMessage 112 = .ok (.lconst 0, 1) := by decide +kernel
theorem dX10_readMessage_113 : decode cX10_readMessage 113 = .ok (.lreturn, 1) := by decide +kernel
theorem dX10_readMessage_114 : decode cX10_readMessage 114 = .ok (.lconst 0, 1) := by decide +kernel
theorem dX10_readMessage_115 : decode cX10_readMessage 115 = .ok (.lreturn, 1) := by decide +kernel
theorem dX10_readIam_0 : decode cX10_readIam 0 = .ok (.aload_n 0, 1) := by decide +kernel
theorem dX10_readIam_1 : decode cX10_readIam 1 = .ok (.iconst 2, 1) := by decide +kernel
theorem dX10_readIam_2 : decode cX10_readIam 2 = .ok (.invokevirtual 91, 3) := by decide +kernel
theorem dX10_readIam_5 : decode cX10_readIam 5 = .ok (.istore_n 3, 1) := by decide +kernel
theorem dX10_readIam_6 : decode cX10_readIam 6 = .ok (.aload_n 0, 1) := by decide +kernel
theorem dX10_readIam_7 : decode cX10_readIam 7 = .ok (.iconst 3, 1) := by decide +kernel
theorem dX10_readIam_8 : decode cX10_readIam 8 = .ok (.invokevirtual 91, 3) := by decide +kernel
theorem dX10_readIam_11 : decode cX10_readIam 11 = .ok (.istore 4, 2) := by decide +kernel
theorem dX10_readIam_13 : decode cX10_readIam 13 = .ok (.iload_n 1, 1) := by decide +kernel
theorem dX10_readIam_14 : decode cX10_readIam 14 = .ok (.iconst 4, 1) := by decide +kernel
theorem dX10_readIam_15 : decode cX10_readIam 15 = .ok (.if_icmp .lt 23, 3) := by decide +kernel
theorem dX10_readIam_18 : decode cX10_readIam 18 = .ok (.iload_n 3, 1) := by decide +kernel
theorem dX10_readIam_19 : decode cX10_readIam 19 = .ok (.iconst 5, 1) := by decide +kernel
theorem dX10_readIam_20 : decode cX10_readIam 20 = .ok (.if_icmp .gt 18, 3) := by decide +kernel
theorem dX10_readIam_23 : decode cX10_readIam 23 = .ok (.iload 4, 2) := by decide +kernel
theorem dX10_readIam_25 : decode cX10_readIam 25 = .ok (.bipush 12, 2) := by decide +kernel
theorem dX10_readIam_27 : decode cX10_readIam 27 = .ok (.if_icmp .gt 11, 3) := by decide +kernel
theorem dX10_readIam_30 : decode cX10_readIam 30 = .ok (.iload_n 1, 1) := by decide +kernel
theorem dX10_readIam_31 : decode cX10_readIam 31 = .ok (.iconst 4, 1) := by decide +kernel
theorem dX10_readIam_32 : decode cX10_readIam 32 = .ok (.iload 4, 2) := by decide +kernel
theorem dX10_readIam_34 : decode cX10_readIam 34 = .ok (.iadd, 1) := by decide +kernel
theorem dX10_readIam_35 : decode cX10_readIam 35 = .ok (.if_icmp .eq 5, 3) := by decide +kernel
theorem dX10_readIam_38 : decode cX10_readIam 38 = .ok (.lconst 0, 1) := by decide +kernel
theorem dX10_readIam_39 : decode cX10_readIam 39 = .ok (.lreturn, 1) := by decide +kernel
theorem dX10_readIam_40 : decode cX10_readIam 40 = .ok (.lconst 0, 1) := by decide +kernel
theorem dX10_readIam_41 : decode cX10_readIam 41 = .ok (.lstore 5, 2) := by decide +kernel
theorem dX10_readIam_43 : decode cX10_readIam 43 = .ok (.iconst 0, 1) := by decide +kernel
theorem dX10_readIam_44 : decode cX10_readIam 44 = .ok (.istore 7, 2) := by decide +kernel
theorem dX10_readIam_46 : decode cX10_readIam 46 = .ok (.iload 7, 2) := by decide +kernel
theorem dX10_readIam_48 : decode cX10_readIam 48 = .ok (.iload 4, 2) := by decide +kernel
theorem dX10_readIam_50 : decode cX10_readIam 50 = .ok (.if_icmp .ge 37, 3) := by decide +kernel
theorem dX10_readIam_53 : decode cX10_readIam 53 = .ok (.aload_n 0, 1) := by decide +kernel
theorem dX10_readIam_54 : decode cX10_readIam 54 = .ok (.iconst 4, 1) := by decide +kernel
theorem dX10_readIam_55 : decode cX10_readIam 55 = .ok (.iload 7, 2) := by decide +kernel
theorem dX10_readIam_57 : decode cX10_readIam 57 = .ok (.iadd, 1) := by decide +kernel
theorem dX10_readIam_58 : decode cX10_readIam 58 = .ok (.invokevirtual 91, 3) := by decide +kernel
theorem dX10_readIam_61 : decode cX10_readIam 61 = .ok (.istore 8, 2) := by decide +kernel
theorem dX10_readIam_63 : decode cX10_readIam 63 = .ok (.iload 8, 2) := by decide +kernel
theorem dX10_readIam_65 : decode cX10_readIam 65 = .ok (.bipush 12, 2) := by decide +kernel
theorem dX10_readIam_67 : decode cX10_readIam 67 = .ok (.if_icmp .lt 5, 3) := by decide +kernel
theorem dX10_readIam_70 : decode cX10_readIam 70 = .ok (.lconst 0, 1) := by decide +kernel
theorem dX10_readIam_71 : decode cX10_readIam 71 = .ok (.lreturn, 1) := by decide +kernel
theorem dX10_readIam_72 : decode cX10_readIam 72 = .ok (.lload 5, 2) := by decide +kernel
theorem dX10_readIam_74 : decode cX10_readIam 74 = .ok (.iload 8, 2) := by decide +kernel
theorem dX10_readIam_76 : decode cX10_readIam 76 = .ok (.invokestatic 102, 3) := by decide +kernel
theorem dX10_readIam_79 : decode cX10_readIam 79 = .ok (.lstore 5, 2) := by decide +kernel
theorem dX10_readIam_81 : decode cX10_readIam 81 = .ok (.iinc 7 1, 3) := by decide +kernel
theorem dX10_readIam_84 : decode cX10_readIam 84 = .ok (.goto (-38), 3) := by decide +kernel
theorem dX10_readIam_87 : decode cX10_readIam 87 = .ok (.iconst 1, 1) := by decide +kernel
theorem dX10_readIam_88 : decode cX10_readIam 88 = .ok (.iload_n 2, 1) := by decide +kernel
theorem dX10_readIam_89 : decode cX10_readIam 89 = .ok (.iload_n 3, 1) := by decide +kernel
theorem dX10_readIam_90 : decode cX10_readIam 90 = .ok (.lload 5, 2) := by decide +kernel
theorem dX10_readIam_92 : decode cX10_readIam 92 = .ok (.invokestatic 106, 3) := by decide +kernel
theorem dX10_readIam_95 : decode cX10_readIam 95 = .ok (.invokestatic 98, 3) := by decide +kernel
theorem dX10_readIam_98 : decode cX10_readIam 98 = .ok (.lreturn, 1) := by decide +kernel
theorem dX11_init_0 : decode cX11_init 0 = .ok (.aload_n 0, 1) := by decide +kernel
theorem dX11_init_1 : decode cX11_init 1 = .ok (.invokespecial 3, 3) := by decide +kernel
theorem dX11_init_4 : decode cX11_init 4 = .ok (.aload_n 0, 1) := by decide +kernel
theorem dX11_init_5 : decode cX11_init 5 = .ok (.iconst 2, 1) := by decide +kernel
theorem dX11_init_6 : decode cX11_init 6 = .ok (.anewarray 9, 3) := by decide +kernel
theorem dX11_init_9 : decode cX11_init 9 = .ok (.putfield 11, 3) := by decide +kernel
theorem dX11_init_12 : decode cX11_init 12 = .ok (.aload_n 0, 1) := by decide +kernel
theorem dX11_init_13 : decode cX11_init 13 = .ok (.bipush 16, 2) := by decide +kernel
theorem dX11_init_15 : decode cX11_init 15 = .ok (.anewarray 15, 3) := by decide +kernel
theorem dX11_init_18 : decode cX11_init 18 = .ok (.putfield 17, 3) := by decide +kernel
theorem dX11_init_21 : decode cX11_init 21 = .ok (.aload_n 0, 1) := by decide +kernel
theorem dX11_init_22 : decode cX11_init 22 = .ok (.bipush 72, 2) := by decide +kernel
theorem dX11_init_24 : decode cX11_init 24 = .ok (.anewarray 21, 3) := by decide +kernel
theorem dX11_init_27 : decode cX11_init 27 = .ok (.putfield 23, 3) := by decide +kernel
theorem dX11_init_30 : decode cX11_init 30 = .ok (.aload_n 0, 1) := by decide +kernel
theorem dX11_init_31 : decode cX11_init 31 = .ok (.new 27, 3) := by decide +kernel
theorem dX11_init_34 : decode cX11_init 34 = .ok (.dup, 1) := by decide +kernel
theorem dX11_init_35 : decode cX11_init 35 = .ok (.invokespecial 29, 3) := by decide +kernel
theorem dX11_init_38 : decode cX11_init 38 = .ok (.putfield 30, 3) := by decide +kernel
theorem dX11_init_41 : decode cX11_init 41 = .ok (.aload_n 0, 1) := by decide +kernel
theorem dX11_init_42 : decode cX11_init 42 = .ok (.new 34, 3) := by decide +kernel
theorem dX11_init_45 : decode cX11_init 45 = .ok (.dup, 1) := by decide +kernel
theorem dX11_init_46 : decode cX11_init 46 = .ok (.invokespecial 36, 3) := by decide +kernel
theorem dX11_init_49 : decode cX11_init 49 = .ok (.putfield 37, 3) := by decide +kernel
theorem dX11_init_52 : decode cX11_init 52 = .ok (.aload_n 0, 1) := by decide +kernel
theorem dX11_init_53 : decode cX11_init 53 = .ok (.new 34, 3) := by decide +kernel
theorem dX11_init_56 : decode cX11_init 56 = .ok (.dup, 1) := by decide +kernel
theorem dX11_init_57 : decode cX11_init 57 = .ok (.invokespecial 36, 3) := by decide +kernel
theorem dX11_init_60 : decode cX11_init 60 = .ok (.putfield 41, 3) := by decide +kernel
theorem dX11_init_63 : decode cX11_init 63 = .ok (.aload_n 0, 1) := by decide +kernel
theorem dX11_init_64 : decode cX11_init 64 = .ok (.new 44, 3) := by decide +kernel
theorem dX11_init_67 : decode cX11_init 67 = .ok (.dup, 1) := by decide +kernel
theorem dX11_init_68 : decode cX11_init 68 = .ok (.invokespecial 46, 3) := by decide +kernel
theorem dX11_init_71 : decode cX11_init 71 = .ok (.putfield 47, 3) := by decide +kernel
theorem dX11_init_74 : decode cX11_init 74 = .ok (.aload_n 0, 1) := by decide +kernel
theorem dX11_init_75 : decode cX11_init 75 = .ok (.lconst 0, 1) := by decide +kernel
theorem dX11_init_76 : decode cX11_init 76 = .ok (.putfield 51, 3) := by decide +kernel
theorem dX11_init_79 : decode cX11_init 79 = .ok (.aload_n 0, 1) := by decide +kernel
theorem dX11_init_80 : decode cX11_init 80 = .ok (.iload_n 1, 1) := by decide +kernel
theorem dX11_init_81 : decode cX11_init 81 = .ok (.iconst 1, 1) := by decide +kernel
theorem dX11_init_82 : decode cX11_init 82 = .ok (.if_icmp .ge 7, 3) := by decide +kernel
theorem dX11_init_85 : decode cX11_init 85 = .ok (.iconst 1, 1) := by decide +kernel
theorem dX11_init_86 : decode cX11_init 86 = .ok (.goto 15, 3) := by decide +kernel
theorem dX11_init_89 : decode cX11_init 89 = .ok (.iload_n 1, 1) := by decide +kernel
theorem dX11_init_90 : decode cX11_init 90 = .ok (.bipush 16, 2) := by decide +kernel
theorem dX11_init_92 : decode cX11_init 92 = .ok (.if_icmp .le 8, 3) := by decide +kernel
theorem dX11_init_95 : decode cX11_init 95 = .ok (.bipush 16, 2) := by decide +kernel
theorem dX11_init_97 : decode cX11_init 97 = .ok (.goto 4, 3) := by decide +kernel
theorem dX11_init_100 : decode cX11_init 100 = .ok (.iload_n 1, 1) := by decide +kernel
theorem dX11_init_101 : decode cX11_init 101 = .ok (.putfield 55, 3) := by decide +kernel
theorem dX11_init_104 : decode cX11_init 104 = .ok (.aload_n 0, 1) := by decide +kernel
theorem dX11_init_105 : decode cX11_init 105 = .ok (.iload_n 2, 1) := by decide +kernel
theorem dX11_init_106 : decode cX11_init 106 = .ok (.ifCond .ge 7, 3) := by decide +kernel
theorem dX11_init_109 : decode cX11_init 109 = .ok (.iconst 0, 1) := by decide +kernel
theorem dX11_init_110 : decode cX11_init 110 = .ok (.goto 19, 3) := by decide +kernel
theorem dX11_init_113 : decode cX11_init 113 = .ok (.iload_n 2, 1) := by decide +kernel
theorem dX11_init_114 : decode cX11_init 114 = .ok (.aload_n 0, 1) := by decide +kernel
theorem dX11_init_115 : decode cX11_init 115 = .ok (.getfield 55, 3) := by decide +kernel
theorem dX11_init_118 : decode cX11_init 118 = .ok (.if_icmp .le 10, 3) := by decide +kernel
theorem dX11_init_121 : decode cX11_init 121 = .ok (.aload_n 0, 1) := by decide +kernel
theorem dX11_init_122 : decode cX11_init 122 = .ok (.getfield 55, 3) := by decide +kernel
theorem dX11_init_125 : decode cX11_init 125 = .ok (.goto 4, 3) := by decide +kernel
theorem dX11_init_128 : decode cX11_init 128 = .ok (.iload_n 2, 1) := by decide +kernel
theorem dX11_init_129 : decode cX11_init 129 = .ok (.putfield 59, 3) := by decide +kernel
theorem dX11_init_132 : decode cX11_init 132 = .ok (.iconst 0, 1) := by decide +kernel
theorem dX11_init_133 : decode cX11_init 133 = .ok (.istore_n 3, 1) := by decide +kernel
theorem dX11_init_134 : decode cX11_init 134 = .ok (.iload_n 3, 1) := by decide +kernel
theorem dX11_init_135 : decode cX11_init 135 = .ok (.iconst 2, 1) := by decide +kernel
theorem dX11_init_136 : decode cX11_init 136 = .ok (.if_icmp .ge 27, 3) := by decide +kernel
theorem dX11_init_139 : decode cX11_init 139 = .ok (.aload_n 0, 1) := by decide +kernel
theorem dX11_init_140 : decode cX11_init 140 = .ok (.getfield 11, 3) := by decide +kernel
theorem dX11_init_143 : decode cX11_init 143 = .ok (.iload_n 3, 1) := by decide +kernel
theorem dX11_init_144 : decode cX11_init 144 = .ok (.new 9, 3) := by decide +kernel
theorem dX11_init_147 : decode cX11_init 147 = .ok (.dup, 1) := by decide +kernel
theorem dX11_init_148 : decode cX11_init 148 = .ok (.iload_n 3, 1) := by decide +kernel
theorem dX11_init_149 : decode cX11_init 149 = .ok (.aload_n 0, 1) := by decide +kernel
theorem dX11_init_150 : decode cX11_init 150 = .ok (.getfield 55, 3) := by decide +kernel
theorem dX11_init_153 : decode cX11_init 153 = .ok (.invokespecial 62, 3) := by decide +kernel
theorem dX11_init_156 : decode cX11_init 156 = .ok (.aastore, 1) := by decide +kernel
theorem dX11_init_157 : decode cX11_init 157 = .ok (.iinc 3 1, 3) := by decide +kernel
theorem dX11_init_160 : decode cX11_init 160 = .ok (.goto (-26), 3) := by decide +kernel
theorem dX11_init_163 : decode cX11_init 163 = .ok (.iconst 0, 1) := by decide +kernel
theorem dX11_init_164 : decode cX11_init 164 = .ok (.istore_n 3, 1) := by decide +kernel
theorem dX11_init_165 : decode cX11_init 165 = .ok (.iload_n 3, 1) := by decide +kernel
theorem dX11_init_166 : decode cX11_init 166 = .ok (.aload_n 0, 1) := by decide +kernel
theorem dX11_init_167 : decode cX11_init 167 = .ok (.getfield 55, 3) := by decide +kernel
theorem dX11_init_170 : decode cX11_init 170 = .ok (.if_icmp .ge 59, 3) := by decide +kernel
theorem dX11_init_173 : decode cX11_init 173 = .ok (.aload_n 0, 1) := by decide +kernel
theorem dX11_init_174 : decode cX11_init 174 = .ok (.getfield 11, 3) := by decide +kernel
theorem dX11_init_177 : decode cX11_init 177 = .ok (.iconst 0, 1) := by decide +kernel
theorem dX11_init_178 : decode cX11_init 178 = .ok (.aaload, 1) := by decide +kernel
theorem dX11_init_179 : decode cX11_init 179 = .ok (.getfield 65, 3) := by decide +kernel
theorem dX11_init_182 : decode cX11_init 182 = .ok (.iload_n 3, 1) := by decide +kernel
theorem dX11_init_183 : decode cX11_init 183 = .ok (.aaload, 1) := by decide +kernel
theorem dX11_init_184 : decode cX11_init 184 = .ok (.aload_n 0, 1) := by decide +kernel
theorem dX11_init_185 : decode cX11_init 185 = .ok (.getfield 11, 3) := by decide +kernel
theorem dX11_init_188 : decode cX11_init 188 = .ok (.iconst 1, 1) := by decide +kernel
theorem dX11_init_189 : decode cX11_init 189 = .ok (.aaload, 1) := by decide +kernel
theorem dX11_init_190 : decode cX11_init 190 = .ok (.getfield 65, 3) := by decide +kernel
theorem dX11_init_193 : decode cX11_init 193 = .ok (.iload_n 3, 1) := by decide +kernel
theorem dX11_init_194 : decode cX11_init 194 = .ok (.aaload, 1) := by decide +kernel
theorem dX11_init_195 : decode cX11_init 195 = .ok (.putfield 69, 3) := by decide +kernel
theorem dX11_init_198 : decode cX11_init 198 = .ok (.aload_n 0, 1) := by decide +kernel
theorem dX11_init_199 : decode cX11_init 199 = .ok (.getfield 11, 3) := by decide +kernel
theorem dX11_init_202 : decode cX11_init 202 = .ok (.iconst 1, 1) := by decide +kernel
theorem dX11_init_203 : decode cX11_init 203 = .ok (.aaload, 1) := by decide +kernel
theorem dX11_init_204 : decode cX11_init 204 = .ok (.getfield 65, 3) := by decide +kernel
theorem dX11_init_207 : decode cX11_init 207 = .ok (.iload_n 3, 1) := by decide +kernel
theorem dX11_init_208 : decode cX11_init 208 = .ok (.aaload, 1) := by decide +kernel
theorem dX11_init_209 : decode cX11_init 209 = .ok (.aload_n 0, 1) := by decide +kernel
theorem dX11_init_210 : decode cX11_init 210 = .ok (.getfield 11, 3) := by decide +kernel
theorem dX11_init_213 : decode cX11_init 213 = .ok (.iconst 0, 1) := by decide +kernel
theorem dX11_init_214 : decode cX11_init 214 = .ok (.aaload, 1) := by decide +kernel
theorem dX11_init_215 : decode cX11_init 215 = .ok (.getfield 65, 3) := by decide +kernel
theorem dX11_init_218 : decode cX11_init 218 = .ok (.iload_n 3, 1) := by decide +kernel
theorem dX11_init_219 : decode cX11_init 219 = .ok (.aaload, 1) := by decide +kernel
theorem dX11_init_220 : decode cX11_init 220 = .ok (.putfield 69, 3) := by decide +kernel
theorem dX11_init_223 : decode cX11_init 223 = .ok (.iinc 3 1, 3) := by decide +kernel
theorem dX11_init_226 : decode cX11_init 226 = .ok (.goto (-61), 3) := by decide +kernel
theorem dX11_init_229 : decode cX11_init 229 = .ok (.iconst 0, 1) := by decide +kernel
theorem dX11_init_230 : decode cX11_init 230 = .ok (.istore_n 3, 1) := by decide +kernel
theorem dX11_init_231 : decode cX11_init 231 = .ok (.iload_n 3, 1) := by decide +kernel
theorem dX11_init_232 : decode cX11_init 232 = .ok (.bipush 16, 2) := by decide +kernel
theorem dX11_init_234 : decode cX11_init 234 = .ok (.if_icmp .ge 23, 3) := by decide +kernel
theorem dX11_init_237 : decode cX11_init 237 = .ok (.aload_n 0, 1) := by decide +kernel
theorem dX11_init_238 : decode cX11_init 238 = .ok (.getfield 17, 3) := by decide +kernel
theorem dX11_init_241 : decode cX11_init 241 = .ok (.iload_n 3, 1) := by decide +kernel
theorem dX11_init_242 : decode cX11_init 242 = .ok (.new 15, 3) := by decide +kernel
theorem dX11_init_245 : decode cX11_init 245 = .ok (.dup, 1) := by decide +kernel
theorem dX11_init_246 : decode cX11_init 246 = .ok (.iload_n 3, 1) := by decide +kernel
theorem dX11_init_247 : decode cX11_init 247 = .ok (.invokespecial 75, 3) := by decide +kernel
theorem dX11_init_250 : decode cX11_init 250 = .ok (.aastore, 1) := by decide +kernel
theorem dX11_init_251 : decode cX11_init 251 = .ok (.iinc 3 1, 3) := by decide +kernel
theorem dX11_init_254 : decode cX11_init 254 = .ok (.goto (-23), 3) := by decide +kernel
theorem dX11_init_257 : decode cX11_init 257 = .ok (.iconst 0, 1) := by decide +kernel
theorem dX11_init_258 : decode cX11_init 258 = .ok (.istore_n 3, 1) := by decide +kernel
theorem dX11_init_259 : decode cX11_init 259 = .ok (.iload_n 3, 1) := by decide +kernel
theorem dX11_init_260 : decode cX11_init 260 = .ok (.bipush 72, 2) := by decide +kernel
theorem dX11_init_262 : decode cX11_init 262 = .ok (.if_icmp .ge 22, 3) := by decide +kernel
theorem dX11_init_265 : decode cX11_init 265 = .ok (.aload_n 0, 1) := by decide +kernel
theorem dX11_init_266 : decode cX11_init 266 = .ok (.getfield 23, 3) := by decide +kernel
theorem dX11_init_269 : decode cX11_init 269 = .ok (.iload_n 3, 1) := by decide +kernel
theorem dX11_init_270 : decode cX11_init 270 = .ok (.new 21, 3) := by decide +kernel
theorem dX11_init_273 : decode cX11_init 273 = .ok (.dup, 1) := by decide +kernel
theorem dX11_init_274 : decode cX11_init 274 = .ok (.invokespecial 78, 3) := by decide +kernel
theorem dX11_init_277 : decode cX11_init 277 = .ok (.aastore, 1) := by decide +kernel
theorem dX11_init_278 : decode cX11_init 278 = .ok (.iinc 3 1, 3) := by decide +kernel
theorem dX11_init_281 : decode cX11_init 281 = .ok (.goto (-22), 3) := by decide +kernel
theorem dX11_init_284 : decode cX11_init 284 = .ok (.return_, 1) := by decide +kernel
theorem dX11_key_0 : decode cX11_key 0 = .ok (.iload_n 1, 1) := by decide +kernel
theorem dX11_key_1 : decode cX11_key 1 = .ok (.iconst 0, 1) := by decide +kernel
theorem dX11_key_2 : decode cX11_key 2 = .ok (.bipush 11, 2) := by decide +kernel
theorem dX11_key_4 : decode cX11_key 4 = .ok (.invokestatic 79, 3) := by decide +kernel
theorem dX11_key_7 : decode cX11_key 7 = .ok (.ifCond .ne 6, 3) := by decide +kernel
theorem dX11_key_10 : decode cX11_key 10 = .ok (.bipush (-2), 2) := by decide +kernel
theorem dX11_key_12 : decode cX11_key 12 = .ok (.ireturn, 1) := by decide +kernel
theorem dX11_key_13 : decode cX11_key 13 = .ok (.aload_n 0, 1) := by decide +kernel
theorem dX11_key_14 : decode cX11_key 14 = .ok (.getfield 51, 3) := by decide +kernel
theorem dX11_key_17 : decode cX11_key 17 = .ok (.invokestatic 83, 3) := by decide +kernel
theorem dX11_key_20 : decode cX11_key 20 = .ok (.bipush 12, 2) := by decide +kernel
theorem dX11_key_22 : decode cX11_key 22 = .ok (.if_icmp .lt 6, 3) := by decide +kernel
theorem dX11_key_25 : decode cX11_key 25 = .ok (.bipush (-3), 2) := by decide +kernel
theorem dX11_key_27 : decode cX11_key 27 = .ok (.ireturn, 1) := by decide +kernel
theorem dX11_key_28 : decode cX11_key 28 = .ok (.aload_n 0, 1) := by decide +kernel
theorem dX11_key_29 : decode cX11_key 29 = .ok (.aload_n 0, 1) := by decide +kernel
theorem dX11_key_30 : decode cX11_key 30 = .ok (.getfield 51, 3) := by decide +kernel
theorem dX11_key_33 : decode cX11_key 33 = .ok (.iload_n 1, 1) := by decide +kernel
theorem dX11_key_34 : decode cX11_key 34 = .ok (.invokestatic 87, 3) := by decide +kernel
theorem dX11_key_37 : decode cX11_key 37 = .ok (.putfield 51, 3) := by decide +kernel
theorem dX11_key_40 : decode cX11_key 40 = .ok (.aload_n 0, 1) := by decide +kernel
theorem dX11_key_41 : decode cX11_key 41 = .ok (.getfield 51, 3) := by decide +kernel
theorem dX11_key_44 : decode cX11_key 44 = .ok (.invokestatic 83, 3) := by decide +kernel
theorem dX11_key_47 : decode cX11_key 47 = .ok (.ireturn, 1) := by decide +kernel
theorem dX11_keyless_0 : decode cX11_keyless 0 = .ok (.aload_n 0, 1) := by decide +kernel
theorem dX11_keyless_1 : decode cX11_keyless 1 = .ok (.getfield 51, 3) := by decide +kernel
theorem dX11_keyless_4 : decode cX11_keyless 4 = .ok (.invokestatic 83, 3) := by decide +kernel
theorem dX11_keyless_7 : decode cX11_keyless 7 = .ok (.istore_n 1, 1) := by decide +kernel
theorem dX11_keyless_8 : decode cX11_keyless 8 = .ok (.aload_n 0, 1) := by decide +kernel
theorem dX11_keyless_9 : decode cX11_keyless 9 = .ok (.lconst 0, 1) := by decide +kernel
theorem dX11_keyless_10 : decode cX11_keyless 10 = .ok (.putfield 51, 3) := by decide +kernel
theorem dX11_keyless_13 : decode cX11_keyless 13 = .ok (.iload_n 1, 1) := by decide +kernel
theorem dX11_keyless_14 : decode cX11_keyless 14 = .ok (.ireturn, 1) := by decide +kernel
theorem dX11_plan_0 : decode cX11_plan 0 = .ok (.aload_n 0, 1) := by decide +kernel
theorem dX11_plan_1 : decode cX11_plan 1 = .ok (.getfield 51, 3) := by decide +kernel
theorem dX11_plan_4 : decode cX11_plan 4 = .ok (.invokestatic 83, 3) := by decide +kernel
theorem dX11_plan_7 : decode cX11_plan 7 = .ok (.istore 6, 2) := by decide +kernel
theorem dX11_plan_9 : decode cX11_plan 9 = .ok (.iload_n 1, 1) := by decide +kernel
theorem dX11_plan_10 : decode cX11_plan 10 = .ok (.invokestatic 91, 3) := by decide +kernel
theorem dX11_plan_13 : decode cX11_plan 13 = .ok (.ifCond .eq 40, 3) := by decide +kernel
theorem dX11_plan_16 : decode cX11_plan 16 = .ok (.iload 6, 2) := by decide +kernel
theorem dX11_plan_18 : decode cX11_plan 18 = .ok (.ifCond .eq 35, 3) := by decide +kernel
theorem dX11_plan_21 : decode cX11_plan 21 = .ok (.iload_n 2, 1) := by decide +kernel
theorem dX11_plan_22 : decode cX11_plan 22 = .ok (.iload 6, 2) := by decide +kernel
theorem dX11_plan_24 : decode cX11_plan 24 = .ok (.bipush 12, 2) := by decide +kernel
theorem dX11_plan_26 : decode cX11_plan 26 = .ok (.invokestatic 79, 3) := by decide +kernel
theorem dX11_plan_29 : decode cX11_plan 29 = .ok (.ifCond .eq 24, 3) := by decide +kernel
theorem dX11_plan_32 : decode cX11_plan 32 = .ok (.iload 5, 2) := by decide +kernel
theorem dX11_plan_34 : decode cX11_plan 34 = .ok (.iconst 0, 1) := by decide +kernel
theorem dX11_plan_35 : decode cX11_plan 35 = .ok (.iconst 3, 1) := by decide +kernel
theorem dX11_plan_36 : decode cX11_plan 36 = .ok (.invokestatic 79, 3) := by decide +kernel
theorem dX11_plan_39 : decode cX11_plan 39 = .ok (.ifCond .eq 14, 3) := by decide +kernel
theorem dX11_plan_42 : decode cX11_plan 42 = .ok (.iload_n 1, 1) := by decide +kernel
theorem dX11_plan_43 : decode cX11_plan 43 = .ok (.iload_n 2, 1) := by decide +kernel
theorem dX11_plan_44 : decode cX11_plan 44 = .ok (.iload_n 3, 1) := by decide +kernel
theorem dX11_plan_45 : decode cX11_plan 45 = .ok (.iload 4, 2) := by decide +kernel
theorem dX11_plan_47 : decode cX11_plan 47 = .ok (.invokestatic 95, 3) := by decide +kernel
theorem dX11_plan_50 : decode cX11_plan 50 = .ok (.ifCond .ne 6, 3) := by decide +kernel
theorem dX11_plan_53 : decode cX11_plan 53 = .ok (.bipush (-2), 2) := by decide +kernel
theorem dX11_plan_55 : decode cX11_plan 55 = .ok (.ireturn, 1) := by decide +kernel
theorem dX11_plan_56 : decode cX11_plan 56 = .ok (.aload_n 0, 1) := by decide +kernel
theorem dX11_plan_57 : decode cX11_plan 57 = .ok (.getfield 11, 3) := by decide +kernel
theorem dX11_plan_60 : decode cX11_plan 60 = .ok (.iload_n 1, 1) := by decide +kernel
theorem dX11_plan_61 : decode cX11_plan 61 = .ok (.aaload, 1) := by decide +kernel
theorem dX11_plan_62 : decode cX11_plan 62 = .ok (.astore 7, 2) := by decide +kernel
theorem dX11_plan_64 : decode cX11_plan 64 = .ok (.aload 7, 2) := by decide +kernel
theorem dX11_plan_66 : decode cX11_plan 66 = .ok (.aload_n 0, 1) := by decide +kernel
theorem dX11_plan_67 : decode cX11_plan 67 = .ok (.getfield 51, 3) := by decide +kernel
theorem dX11_plan_70 : decode cX11_plan 70 = .ok (.invokevirtual 99, 3) := by decide +kernel
theorem dX11_plan_73 : decode cX11_plan 73 = .ok (.ifCond .eq 6, 3) := by decide +kernel
theorem dX11_plan_76 : decode cX11_plan 76 = .ok (.bipush (-2), 2) := by decide +kernel
theorem dX11_plan_78 : decode cX11_plan 78 = .ok (.ireturn, 1) := by decide +kernel
theorem dX11_plan_79 : decode cX11_plan 79 = .ok (.aload 7, 2) := by decide +kernel
theorem dX11_plan_81 : decode cX11_plan 81 = .ok (.getfield 103, 3) := by decide +kernel
theorem dX11_plan_84 : decode cX11_plan 84 = .ok (.bipush 24, 2) := by decide +kernel
theorem dX11_plan_86 : decode cX11_plan 86 = .ok (.if_icmp .lt 6, 3) := by decide +kernel
theorem dX11_plan_89 : decode cX11_plan 89 = .ok (.bipush (-3), 2) := by decide +kernel
theorem dX11_plan_91 : decode cX11_plan 91 = .ok (.ireturn, 1) := by decide +kernel
theorem dX11_plan_92 : decode cX11_plan 92 = .ok (.aload 7, 2) := by decide +kernel
theorem dX11_plan_94 : decode cX11_plan 94 = .ok (.getfield 106, 3) := by decide +kernel
theorem dX11_plan_97 : decode cX11_plan 97 = .ok (.aload 7, 2) := by decide +kernel
theorem dX11_plan_99 : decode cX11_plan 99 = .ok (.getfield 103, 3) := by decide +kernel
theorem dX11_plan_102 : decode cX11_plan 102 = .ok (.new 110, 3) := by decide +kernel
theorem dX11_plan_105 : decode cX11_plan 105 = .ok (.dup, 1) := by decide +kernel
theorem dX11_plan_106 : decode cX11_plan 106 = .ok (.aload_n 0, 1) := by decide +kernel
theorem dX11_plan_107 : decode cX11_plan 107 = .ok (.getfield 51, 3) := by decide +kernel
theorem dX11_plan_110 : decode cX11_plan 110 = .ok (.iload_n 2, 1) := by decide +kernel
theorem dX11_plan_111 : decode cX11_plan 111 = .ok (.iload_n 3, 1) := by decide +kernel
theorem dX11_plan_112 : decode cX11_plan 112 = .ok (.iload 4, 2) := by decide +kernel
theorem dX11_plan_114 : decode cX11_plan 114 = .ok (.iload 5, 2) := by decide +kernel
theorem dX11_plan_116 : decode cX11_plan 116 = .ok (.invokespecial 112, 3) := by decide +kernel
theorem dX11_plan_119 : decode cX11_plan 119 = .ok (.aastore, 1) := by decide +kernel
theorem dX11_plan_120 : decode cX11_plan 120 = .ok (.aload 7, 2) := by decide +kernel
theorem dX11_plan_122 : decode cX11_plan 122 = .ok (.dup, 1) := by decide +kernel
theorem dX11_plan_123 : decode cX11_plan 123 = .ok (.getfield 103, 3) := by decide +kernel
theorem dX11_plan_126 : decode cX11_plan 126 = .ok (.iconst 1, 1) := by decide +kernel
theorem dX11_plan_127 : decode cX11_plan 127 = .ok (.iadd, 1) := by decide +kernel
theorem dX11_plan_128 : decode cX11_plan 128 = .ok (.putfield 103, 3) := by decide +kernel
theorem dX11_plan_131 : decode cX11_plan 131 = .ok (.aload_n 0, 1) := by decide +kernel
theorem dX11_plan_132 : decode cX11_plan 132 = .ok (.lconst 0, 1) := by decide +kernel
theorem dX11_plan_133 : decode cX11_plan 133 = .ok (.putfield 51, 3) := by decide +kernel
theorem dX11_plan_136 : decode cX11_plan 136 = .ok (.aload 7, 2) := by decide +kernel
theorem dX11_plan_138 : decode cX11_plan 138 = .ok (.getfield 103, 3) := by decide +kernel
theorem dX11_plan_141 : decode cX11_plan 141 = .ok (.iconst 1, 1) := by decide +kernel
theorem dX11_plan_142 : decode cX11_plan 142 = .ok (.isub, 1) := by decide +kernel
theorem dX11_plan_143 : decode cX11_plan 143 = .ok (.ireturn, 1) := by decide +kernel
theorem dX11_member_0 : decode cX11_member 0 = .ok (.iload_n 1, 1) := by decide +kernel
theorem dX11_member_1 : decode cX11_member 1 = .ok (.iconst 0, 1) := by decide +kernel
theorem dX11_member_2 : decode cX11_member 2 = .ok (.iconst 2, 1) := by decide +kernel
theorem dX11_member_3 : decode cX11_member 3 = .ok (.invokestatic 79, 3) := by decide +kernel
theorem dX11_member_6 : decode cX11_member 6 = .ok (.ifCond .eq 10, 3) := by decide +kernel
theorem dX11_member_9 : decode cX11_member 9 = .ok (.iload_n 2, 1) := by decide +kernel
theorem dX11_member_10 : decode cX11_member 10 = .ok (.invokestatic 115, 3) := by decide +kernel
theorem dX11_member_13 : decode cX11_member 13 = .ok (.ifCond .ne 6, 3) := by decide +kernel
theorem dX11_member_16 : decode cX11_member 16 = .ok (.bipush (-2), 2) := by decide +kernel
theorem dX11_member_18 : decode cX11_member 18 = .ok (.ireturn, 1) := by decide +kernel
theorem dX11_member_19 : decode cX11_member 19 = .ok (.aload_n 0, 1) := by decide +kernel
theorem dX11_member_20 : decode cX11_member 20 = .ok (.getfield 11, 3) := by decide +kernel
theorem dX11_member_23 : decode cX11_member 23 = .ok (.iload_n 2, 1) := by decide +kernel
theorem dX11_member_24 : decode cX11_member 24 = .ok (.bipush 8, 2) := by decide +kernel
theorem dX11_member_26 : decode cX11_member 26 = .ok (.idiv, 1) := by decide +kernel
theorem dX11_member_27 : decode cX11_member 27 = .ok (.aaload, 1) := by decide +kernel
theorem dX11_member_28 : decode cX11_member 28 = .ok (.getfield 118, 3) := by decide +kernel
theorem dX11_member_31 : decode cX11_member 31 = .ok (.iload_n 1, 1) := by decide +kernel
theorem dX11_member_32 : decode cX11_member 32 = .ok (.aaload, 1) := by decide +kernel
theorem dX11_member_33 : decode cX11_member 33 = .ok (.astore_n 3, 1) := by decide +kernel
theorem dX11_member_34 : decode cX11_member 34 = .ok (.aload_n 3, 1) := by decide +kernel
theorem dX11_member_35 : decode cX11_member 35 = .ok (.getfield 122, 3) := by decide +kernel
theorem dX11_member_38 : decode cX11_member 38 = .ok (.bipush 8, 2) := by decide +kernel
theorem dX11_member_40 : decode cX11_member 40 = .ok (.if_icmp .ge 16, 3) := by decide +kernel
theorem dX11_member_43 : decode cX11_member 43 = .ok (.aload_n 3, 1) := by decide +kernel
theorem dX11_member_44 : decode cX11_member 44 = .ok (.aload_n 0, 1) := by decide +kernel
theorem dX11_member_45 : decode cX11_member 45 = .ok (.getfield 17, 3) := by decide +kernel
theorem dX11_member_48 : decode cX11_member 48 = .ok (.iload_n 2, 1) := by decide +kernel
theorem dX11_member_49 : decode cX11_member 49 = .ok (.aaload, 1) := by decide +kernel
theorem dX11_member_50 : decode cX11_member 50 = .ok (.invokevirtual 127, 3) := by decide +kernel
theorem dX11_member_53 : decode cX11_member 53 = .ok (.ifCond .eq 6, 3) := by decide +kernel
theorem dX11_member_56 : decode cX11_member 56 = .ok (.bipush (-2), 2) := by decide +kernel
theorem dX11_member_58 : decode cX11_member 58 = .ok (.ireturn, 1) := by decide +kernel
theorem dX11_member_59 : decode cX11_member 59 = .ok (.aload_n 3, 1) := by decide +kernel
theorem dX11_member_60 : decode cX11_member 60 = .ok (.getfield 131, 3) := by decide +kernel
theorem dX11_member_63 : decode cX11_member 63 = .ok (.aload_n 3, 1) := by decide +kernel
theorem dX11_member_64 : decode cX11_member 64 = .ok (.getfield 122, 3) := by decide +kernel
theorem dX11_member_67 : decode cX11_member 67 = .ok (.aload_n 0, 1) := by decide +kernel
theorem dX11_member_68 : decode cX11_member 68 = .ok (.getfield 17, 3) := by decide +kernel
theorem dX11_member_71 : decode cX11_member 71 = .ok (.iload_n 2, 1) := by decide +kernel
theorem dX11_member_72 : decode cX11_member 72 = .ok (.aaload, 1) := by decide +kernel
theorem dX11_member_73 : decode cX11_member 73 = .ok (.aastore, 1) := by decide +kernel
theorem dX11_member_74 : decode cX11_member 74 = .ok (.aload_n 3, 1) := by decide +kernel
theorem dX11_member_75 : decode cX11_member 75 = .ok (.dup, 1) := by decide +kernel
theorem dX11_member_76 : decode cX11_member 76 = .ok (.getfield 122, 3) := by decide +kernel
theorem dX11_member_79 : decode cX11_member 79 = .ok (.iconst 1, 1) := by decide +kernel
theorem dX11_member_80 : decode cX11_member 80 = .ok (.iadd, 1) := by decide +kernel
theorem dX11_member_81 : decode cX11_member 81 = .ok (.putfield 122, 3) := by decide +kernel
theorem dX11_member_84 : decode cX11_member 84 = .ok (.aload_n 3, 1) := by decide +kernel
theorem dX11_member_85 : decode cX11_member 85 = .ok (.getfield 122, 3) := by decide +kernel
theorem dX11_member_88 : decode cX11_member 88 = .ok (.ireturn, 1) := by decide +kernel
theorem dX11_waiting_0 : decode cX11_waiting 0 = .ok (.iload_n 1, 1) := by decide +kernel
theorem dX11_waiting_1 : decode cX11_waiting 1 = .ok (.invokestatic 91, 3) := by decide +kernel
theorem dX11_waiting_4 : decode cX11_waiting 4 = .ok (.ifCond .eq 22, 3) := by decide +kernel
theorem dX11_waiting_7 : decode cX11_waiting 7 = .ok (.iload_n 2, 1) := by decide +kernel
theorem dX11_waiting_8 : decode cX11_waiting 8 = .ok (.iconst 0, 1) := by decide +kernel
theorem dX11_waiting_9 : decode cX11_waiting 9 = .ok (.iconst 2, 1) := by decide +kernel
theorem dX11_waiting_10 : decode cX11_waiting 10 = .ok (.invokestatic 79, 3) := by decide +kernel
theorem dX11_waiting_13 : decode cX11_waiting 13 = .ok (.ifCond .eq 13, 3) := by decide +kernel
theorem dX11_waiting_16 : decode cX11_waiting 16 = .ok (.iload_n 3, 1) := by decide +kernel
theorem dX11_waiting_17 : decode cX11_waiting 17 = .ok (.iconst 0, 1) := by decide +kernel
theorem dX11_waiting_18 : decode cX11_waiting 18 = .ok (.bipush 10, 2) := by decide +kernel
theorem dX11_waiting_20 : decode cX11_waiting 20 = .ok (.invokestatic 79, 3) := by decide +kernel
theorem dX11_waiting_23 : decode cX11_waiting 23 = .ok (.ifCond .ne 6, 3) := by decide +kernel
theorem dX11_waiting_26 : decode cX11_waiting 26 = .ok (.bipush (-2), 2) := by decide +kernel
theorem dX11_waiting_28 : decode cX11_waiting 28 = .ok (.ireturn, 1) := by decide +kernel
theorem dX11_waiting_29 : decode cX11_waiting 29 = .ok (.aload_n 0, 1) := by decide +kernel
theorem dX11_waiting_30 : decode cX11_waiting 30 = .ok (.getfield 11, 3) := by decide +kernel
theorem dX11_waiting_33 : decode cX11_waiting 33 = .ok (.iload_n 1, 1) := by decide +kernel
theorem dX11_waiting_34 : decode cX11_waiting 34 = .ok (.aaload, 1) := by decide +kernel
theorem dX11_waiting_35 : decode cX11_waiting 35 = .ok (.getfield 118, 3) := by decide +kernel
theorem dX11_waiting_38 : decode cX11_waiting 38 = .ok (.iload_n 2, 1) := by decide +kernel
theorem dX11_waiting_39 : decode cX11_waiting 39 = .ok (.aaload, 1) := by decide +kernel
theorem dX11_waiting_40 : decode cX11_waiting 40 = .ok (.astore 4, 2) := by decide +kernel
theorem dX11_waiting_42 : decode cX11_waiting 42 = .ok (.aload 4, 2) := by decide +kernel
theorem dX11_waiting_44 : decode cX11_waiting 44 = .ok (.getfield 134, 3) := by decide +kernel
theorem dX11_waiting_47 : decode cX11_waiting 47 = .ok (.istore 5, 2) := by decide +kernel
theorem dX11_waiting_49 : decode cX11_waiting 49 = .ok (.aload 4, 2) := by decide +kernel
theorem dX11_waiting_51 : decode cX11_waiting 51 = .ok (.iload_n 3, 1) := by decide +kernel
theorem dX11_waiting_52 : decode cX11_waiting 52 = .ok (.putfield 134, 3) := by decide +kernel
theorem dX11_waiting_55 : decode cX11_waiting 55 = .ok (.iload 5, 2) := by decide +kernel
theorem dX11_waiting_57 : decode cX11_waiting 57 = .ok (.ireturn, 1) := by decide +kernel
theorem dX11_feature_0 : decode cX11_feature 0 = .ok (.iload_n 1, 1) := by decide +kernel
theorem dX11_feature_1 : decode cX11_feature 1 = .ok (.invokestatic 115, 3) := by decide +kernel
theorem dX11_feature_4 : decode cX11_feature 4 = .ok (.ifCond .eq 12, 3) := by decide +kernel
theorem dX11_feature_7 : decode cX11_feature 7 = .ok (.iload_n 2, 1) := by decide +kernel
theorem dX11_feature_8 : decode cX11_feature 8 = .ok (.iconst 0, 1) := by decide +kernel
theorem dX11_feature_9 : decode cX11_feature 9 = .ok (.iconst 2, 1) := by decide +kernel
theorem dX11_feature_10 : decode cX11_feature 10 = .ok (.invokestatic 79, 3) := by decide +kernel
theorem dX11_feature_13 : decode cX11_feature 13 = .ok (.ifCond .ne 6, 3) := by decide +kernel
theorem dX11_feature_16 : decode cX11_feature 16 = .ok (.bipush (-2), 2) := by decide +kernel
theorem dX11_feature_18 : decode cX11_feature 18 = .ok (.ireturn, 1) := by decide +kernel
theorem dX11_feature_19 : decode cX11_feature 19 = .ok (.aload_n 0, 1) := by decide +kernel
theorem dX11_feature_20 : decode cX11_feature 20 = .ok (.getfield 17, 3) := by decide +kernel
theorem dX11_feature_23 : decode cX11_feature 23 = .ok (.iload_n 1, 1) := by decide +kernel
theorem dX11_feature_24 : decode cX11_feature 24 = .ok (.aaload, 1) := by decide +kernel
theorem dX11_feature_25 : decode cX11_feature 25 = .ok (.getfield 137, 3) := by decide +kernel
theorem dX11_feature_28 : decode cX11_feature 28 = .ok (.iload_n 2, 1) := by decide +kernel
theorem dX11_feature_29 : decode cX11_feature 29 = .ok (.baload, 1) := by decide +kernel
theorem dX11_feature_30 : decode cX11_feature 30 = .ok (.istore 4, 2) := by decide +kernel
theorem dX11_feature_32 : decode cX11_feature 32 = .ok (.aload_n 0, 1) := by decide +kernel
theorem dX11_feature_33 : decode cX11_feature 33 = .ok (.getfield 17, 3) := by decide +kernel
theorem dX11_feature_36 : decode cX11_feature 36 = .ok (.iload_n 1, 1) := by decide +kernel
theorem dX11_feature_37 : decode cX11_feature 37 = .ok (.aaload, 1) := by decide +kernel
theorem dX11_feature_38 : decode cX11_feature 38 = .ok (.getfield 137, 3) := by decide +kernel
theorem dX11_feature_41 : decode cX11_feature 41 = .ok (.iload_n 2, 1) := by decide +kernel
theorem dX11_feature_42 : decode cX11_feature 42 = .ok (.iload_n 3, 1) := by decide +kernel
theorem dX11_feature_43 : decode cX11_feature 43 = .ok (.bastore, 1) := by decide +kernel
theorem dX11_feature_44 : decode cX11_feature 44 = .ok (.iload 4, 2) := by decide +kernel
theorem dX11_feature_46 : decode cX11_feature 46 = .ok (.ifCond .eq 7, 3) := by decide +kernel
theorem dX11_feature_49 : decode cX11_feature 49 = .ok (.iconst 1, 1) := by decide +kernel
theorem dX11_feature_50 : decode cX11_feature 50 = .ok (.goto 4, 3) := by decide +kernel
theorem dX11_feature_53 : decode cX11_feature 53 = .ok (.iconst 0, 1) := by decide +kernel
theorem dX11_feature_54 : decode cX11_feature 54 = .ok (.ireturn, 1) := by decide +kernel
theorem dX11_forward_0 : decode cX11_forward 0 = .ok (.iload_n 1, 1) := by decide +kernel
theorem dX11_forward_1 : decode cX11_forward 1 = .ok (.invokestatic 115, 3) := by decide +kernel
theorem dX11_forward_4 : decode cX11_forward 4 = .ok (.ifCond .eq 12, 3) := by decide +kernel
theorem dX11_forward_7 : decode cX11_forward 7 = .ok (.iload_n 2, 1) := by decide +kernel
theorem dX11_forward_8 : decode cX11_forward 8 = .ok (.iconst 0, 1) := by decide +kernel
theorem dX11_forward_9 : decode cX11_forward 9 = .ok (.iconst 2, 1) := by decide +kernel
theorem dX11_forward_10 : decode cX11_forward 10 = .ok (.invokestatic 79, 3) := by decide +kernel
theorem dX11_forward_13 : decode cX11_forward 13 = .ok (.ifCond .ne 6, 3) := by decide +kernel
theorem dX11_forward_16 : decode cX11_forward 16 = .ok (.bipush (-2), 2) := by decide +kernel
theorem dX11_forward_18 : decode cX11_forward 18 = .ok (.ireturn, 1) := by decide +kernel
theorem dX11_forward_19 : decode cX11_forward 19 = .ok (.aload_n 0, 1) := by decide +kernel
theorem dX11_forward_20 : decode cX11_forward 20 = .ok (.getfield 17, 3) := by decide +kernel
theorem dX11_forward_23 : decode cX11_forward 23 = .ok (.iload_n 1, 1) := by decide +kernel
theorem dX11_forward_24 : decode cX11_forward 24 = .ok (.aaload, 1) := by decide +kernel
theorem dX11_forward_25 : decode cX11_forward 25 = .ok (.getfield 141, 3) := by decide +kernel
theorem dX11_forward_28 : decode cX11_forward 28 = .ok (.iload_n 2, 1) := by decide +kernel
theorem dX11_forward_29 : decode cX11_forward 29 = .ok (.aload_n 0, 1) := by decide +kernel
theorem dX11_forward_30 : decode cX11_forward 30 = .ok (.getfield 51, 3) := by decide +kernel
theorem dX11_forward_33 : decode cX11_forward 33 = .ok (.lastore, 1) := by decide +kernel
theorem dX11_forward_34 : decode cX11_forward 34 = .ok (.aload_n 0, 1) := by decide +kernel
theorem dX11_forward_35 : decode cX11_forward 35 = .ok (.lconst 0, 1) := by decide +kernel
theorem dX11_forward_36 : decode cX11_forward 36 = .ok (.putfield 51, 3) := by decide +kernel
theorem dX11_forward_39 : decode cX11_forward 39 = .ok (.iconst 1, 1) := by decide +kernel
theorem dX11_forward_40 : decode cX11_forward 40 = .ok (.ireturn, 1) := by decide +kernel
theorem dX11_tariff_0 : decode cX11_tariff 0 = .ok (.iload_n 1, 1) := by decide +kernel
theorem dX11_tariff_1 : decode cX11_tariff 1 = .ok (.iconst 0, 1) := by decide +kernel
theorem dX11_tariff_2 : decode cX11_tariff 2 = .ok (.iconst 3, 1) := by decide +kernel
theorem dX11_tariff_3 : decode cX11_tariff 3 = .ok (.invokestatic 79, 3) := by decide +kernel
theorem dX11_tariff_6 : decode cX11_tariff 6 = .ok (.ifCond .eq 49, 3) := by decide +kernel
theorem dX11_tariff_9 : decode cX11_tariff 9 = .ok (.iload_n 2, 1) := by decide +kernel
theorem dX11_tariff_10 : decode cX11_tariff 10 = .ok (.iconst 0, 1) := by decide +kernel
theorem dX11_tariff_11 : decode cX11_tariff 11 = .ok (.sipush 10000, 3) := by decide +kernel
theorem dX11_tariff_14 : decode cX11_tariff 14 = .ok (.invokestatic 79, 3) := by decide +kernel
theorem dX11_tariff_17 : decode cX11_tariff 17 = .ok (.ifCond .eq 38, 3) := by decide +kernel
theorem dX11_tariff_20 : decode cX11_tariff 20 = .ok (.iload_n 3, 1) := by decide +kernel
theorem dX11_tariff_21 : decode cX11_tariff 21 = .ok (.iconst 1, 1) := by decide +kernel
theorem dX11_tariff_22 : decode cX11_tariff 22 = .ok (.sipush 1000, 3) := by decide +kernel
theorem dX11_tariff_25 : decode cX11_tariff 25 = .ok (.invokestatic 79, 3) := by decide +kernel
theorem dX11_tariff_28 : decode cX11_tariff 28 = .ok (.ifCond .eq 27, 3) := by decide +kernel
theorem dX11_tariff_31 : decode cX11_tariff 31 = .ok (.iload 4, 2) := by decide +kernel
theorem dX11_tariff_33 : decode cX11_tariff 33 = .ok (.iconst 0, 1) := by decide +kernel
theorem dX11_tariff_34 : decode cX11_tariff 34 = .ok (.sipush 200, 3) := by decide +kernel
theorem dX11_tariff_37 : decode cX11_tariff 37 = .ok (.invokestatic 79, 3) := by decide +kernel
theorem dX11_tariff_40 : decode cX11_tariff 40 = .ok (.ifCond .eq 15, 3) := by decide +kernel
theorem dX11_tariff_43 : decode cX11_tariff 43 = .ok (.iload 5, 2) := by decide +kernel
theorem dX11_tariff_45 : decode cX11_tariff 45 = .ok (.iconst 0, 1) := by decide +kernel
theorem dX11_tariff_46 : decode cX11_tariff 46 = .ok (.sipush 200, 3) := by decide +kernel
theorem dX11_tariff_49 : decode cX11_tariff 49 = .ok (.invokestatic 79, 3) := by decide +kernel
theorem dX11_tariff_52 : decode cX11_tariff 52 = .ok (.ifCond .ne 6, 3) := by decide +kernel
theorem dX11_tariff_55 : decode cX11_tariff 55 = .ok (.bipush (-2), 2) := by decide +kernel
theorem dX11_tariff_57 : decode cX11_tariff 57 = .ok (.ireturn, 1) := by decide +kernel
theorem dX11_tariff_58 : decode cX11_tariff 58 = .ok (.aload_n 0, 1) := by decide +kernel
theorem dX11_tariff_59 : decode cX11_tariff 59 = .ok (.getfield 30, 3) := by decide +kernel
theorem dX11_tariff_62 : decode cX11_tariff 62 = .ok (.iload_n 1, 1) := by decide +kernel
theorem dX11_tariff_63 : decode cX11_tariff 63 = .ok (.iload_n 2, 1) := by decide +kernel
theorem dX11_tariff_64 : decode cX11_tariff 64 = .ok (.iload_n 3, 1) := by decide +kernel
theorem dX11_tariff_65 : decode cX11_tariff 65 = .ok (.iload 4, 2) := by decide +kernel
theorem dX11_tariff_67 : decode cX11_tariff 67 = .ok (.iload 5, 2) := by decide +kernel
theorem dX11_tariff_69 : decode cX11_tariff 69 = .ok (.invokevirtual 145, 3) := by decide +kernel
theorem dX11_tariff_72 : decode cX11_tariff 72 = .ok (.iconst 1, 1) := by decide +kernel
theorem dX11_tariff_73 : decode cX11_tariff 73 = .ok (.ireturn, 1) := by decide +kernel
theorem dX11_credit_0 : decode cX11_credit 0 = .ok (.iload_n 1, 1) := by decide +kernel
theorem dX11_credit_1 : decode cX11_credit 1 = .ok (.invokestatic 115, 3) := by decide +kernel
theorem dX11_credit_4 : decode cX11_credit 4 = .ok (.ifCond .eq 13, 3) := by decide +kernel
theorem dX11_credit_7 : decode cX11_credit 7 = .ok (.iload_n 2, 1) := by decide +kernel
theorem dX11_credit_8 : decode cX11_credit 8 = .ok (.iconst (-1), 1) := by decide +kernel
theorem dX11_credit_9 : decode cX11_credit 9 = .ok (.ldc 149, 2) := by decide +kernel
theorem dX11_credit_11 : decode cX11_credit 11 = .ok (.invokestatic 79, 3) := by decide +kernel
theorem dX11_credit_14 : decode cX11_credit 14 = .ok (.ifCond .ne 6, 3) := by decide +kernel
theorem dX11_credit_17 : decode cX11_credit 17 = .ok (.bipush (-2), 2) := by decide +kernel
theorem dX11_credit_19 : decode cX11_credit 19 = .ok (.ireturn, 1) := by decide +kernel
theorem dX11_credit_20 : decode cX11_credit 20 = .ok (.aload_n 0, 1) := by decide +kernel
theorem dX11_credit_21 : decode cX11_credit 21 = .ok (.getfield 17, 3) := by decide +kernel
theorem dX11_credit_24 : decode cX11_credit 24 = .ok (.iload_n 1, 1) := by decide +kernel
theorem dX11_credit_25 : decode cX11_credit 25 = .ok (.aaload, 1) := by decide +kernel
theorem dX11_credit_26 : decode cX11_credit 26 = .ok (.getfield 150, 3) := by decide +kernel
theorem dX11_credit_29 : decode cX11_credit 29 = .ok (.istore_n 3, 1) := by decide +kernel
theorem dX11_credit_30 : decode cX11_credit 30 = .ok (.aload_n 0, 1) := by decide +kernel
theorem dX11_credit_31 : decode cX11_credit 31 = .ok (.getfield 17, 3) := by decide +kernel
theorem dX11_credit_34 : decode cX11_credit 34 = .ok (.iload_n 1, 1) := by decide +kernel
theorem dX11_credit_35 : decode cX11_credit 35 = .ok (.aaload, 1) := by decide +kernel
theorem dX11_credit_36 : decode cX11_credit 36 = .ok (.iload_n 2, 1) := by decide +kernel
theorem dX11_credit_37 : decode cX11_credit 37 = .ok (.putfield 150, 3) := by decide +kernel
theorem dX11_credit_40 : decode cX11_credit 40 = .ok (.iload_n 3, 1) := by decide +kernel
theorem dX11_credit_41 : decode cX11_credit 41 = .ok (.ireturn, 1) := by decide +kernel
theorem dX11_hook_0 : decode cX11_hook 0 = .ok (.iload_n 1, 1) := by decide +kernel
theorem dX11_hook_1 : decode cX11_hook 1 = .ok (.invokestatic 115, 3) := by decide +kernel
theorem dX11_hook_4 : decode cX11_hook 4 = .ok (.ifCond .ne 6, 3) := by decide +kernel
theorem dX11_hook_7 : decode cX11_hook 7 = .ok (.bipush (-2), 2) := by decide +kernel
theorem dX11_hook_9 : decode cX11_hook 9 = .ok (.ireturn, 1) := by decide +kernel
theorem dX11_hook_10 : decode cX11_hook 10 = .ok (.aload_n 0, 1) := by decide +kernel
theorem dX11_hook_11 : decode cX11_hook 11 = .ok (.getfield 17, 3) := by decide +kernel
theorem dX11_hook_14 : decode cX11_hook 14 = .ok (.iload_n 1, 1) := by decide +kernel
theorem dX11_hook_15 : decode cX11_hook 15 = .ok (.aaload, 1) := by decide +kernel
theorem dX11_hook_16 : decode cX11_hook 16 = .ok (.getfield 153, 3) := by decide +kernel
theorem dX11_hook_19 : decode cX11_hook 19 = .ok (.istore_n 3, 1) := by decide +kernel
theorem dX11_hook_20 : decode cX11_hook 20 = .ok (.aload_n 0, 1) := by decide +kernel
theorem dX11_hook_21 : decode cX11_hook 21 = .ok (.getfield 17, 3) := by decide +kernel
theorem dX11_hook_24 : decode cX11_hook 24 = .ok (.iload_n 1, 1) := by decide +kernel
theorem dX11_hook_25 : decode cX11_hook 25 = .ok (.aaload, 1) := by decide +kernel
theorem dX11_hook_26 : decode cX11_hook 26 = .ok (.iload_n 2, 1) := by decide +kernel
theorem dX11_hook_27 : decode cX11_hook 27 = .ok (.putfield 153, 3) := by decide +kernel
theorem dX11_hook_30 : decode cX11_hook 30 = .ok (.iload_n 3, 1) := by decide +kernel
theorem dX11_hook_31 : decode cX11_hook 31 = .ok (.ifCond .eq 7, 3) := by decide +kernel
theorem dX11_hook_34 : decode cX11_hook 34 = .ok (.iconst 1, 1) := by decide +kernel
theorem dX11_hook_35 : decode cX11_hook 35 = .ok (.goto 4, 3) := by decide +kernel
theorem dX11_hook_38 : decode cX11_hook 38 = .ok (.iconst 0, 1) := by decide +kernel
theorem dX11_hook_39 : decode cX11_hook 39 = .ok (.ireturn, 1) := by decide +kernel
theorem dX11_dial_0 : decode cX11_dial 0 = .ok (.iload_n 1, 1) := by decide +kernel
theorem dX11_dial_1 : decode cX11_dial 1 = .ok (.invokestatic 115, 3) := by decide +kernel
theorem dX11_dial_4 : decode cX11_dial 4 = .ok (.ifCond .eq 25, 3) := by decide +kernel
theorem dX11_dial_7 : decode cX11_dial 7 = .ok (.iload_n 2, 1) := by decide +kernel
theorem dX11_dial_8 : decode cX11_dial 8 = .ok (.iconst 0, 1) := by decide +kernel
theorem dX11_dial_9 : decode cX11_dial 9 = .ok (.bipush 11, 2) := by decide +kernel
theorem dX11_dial_11 : decode cX11_dial 11 = .ok (.invokestatic 79, 3) := by decide +kernel
theorem dX11_dial_14 : decode cX11_dial 14 = .ok (.ifCond .eq 15, 3) := by decide +kernel
theorem dX11_dial_17 : decode cX11_dial 17 = .ok (.aload_n 0, 1) := by decide +kernel
theorem dX11_dial_18 : decode cX11_dial 18 = .ok (.getfield 17, 3) := by decide +kernel
theorem dX11_dial_21 : decode cX11_dial 21 = .ok (.iload_n 1, 1) := by decide +kernel
theorem dX11_dial_22 : decode cX11_dial 22 = .ok (.aaload, 1) := by decide +kernel
theorem dX11_dial_23 : decode cX11_dial 23 = .ok (.getfield 157, 3) := by decide +kernel
theorem dX11_dial_26 : decode cX11_dial 26 = .ok (.ifCond .ne 6, 3) := by decide +kernel
theorem dX11_dial_29 : decode cX11_dial 29 = .ok (.bipush (-2), 2) := by decide +kernel
theorem dX11_dial_31 : decode cX11_dial 31 = .ok (.ireturn, 1) := by decide +kernel
theorem dX11_dial_32 : decode cX11_dial 32 = .ok (.aload_n 0, 1) := by decide +kernel
theorem dX11_dial_33 : decode cX11_dial 33 = .ok (.getfield 17, 3) := by decide +kernel
theorem dX11_dial_36 : decode cX11_dial 36 = .ok (.iload_n 1, 1) := by decide +kernel
theorem dX11_dial_37 : decode cX11_dial 37 = .ok (.aaload, 1) := by decide +kernel
theorem dX11_dial_38 : decode cX11_dial 38 = .ok (.astore_n 3, 1) := by decide +kernel
theorem dX11_dial_39 : decode cX11_dial 39 = .ok (.aload_n 3, 1) := by decide +kernel
theorem dX11_dial_40 : decode cX11_dial 40 = .ok (.getfield 160, 3) := by decide +kernel
theorem dX11_dial_43 : decode cX11_dial 43 = .ok (.bipush 20, 2) := by decide +kernel
theorem dX11_dial_45 : decode cX11_dial 45 = .ok (.if_icmp .lt 6, 3) := by decide +kernel
theorem dX11_dial_48 : decode cX11_dial 48 = .ok (.bipush (-3), 2) := by decide +kernel
theorem dX11_dial_50 : decode cX11_dial 50 = .ok (.ireturn, 1) := by decide +kernel
theorem dX11_dial_51 : decode cX11_dial 51 = .ok (.aload_n 3, 1) := by decide +kernel
theorem dX11_dial_52 : decode cX11_dial 52 = .ok (.getfield 163, 3) := by decide +kernel
theorem dX11_dial_55 : decode cX11_dial 55 = .ok (.aload_n 3, 1) := by decide +kernel
theorem dX11_dial_56 : decode cX11_dial 56 = .ok (.getfield 160, 3) := by decide +kernel
theorem dX11_dial_59 : decode cX11_dial 59 = .ok (.iload_n 2, 1) := by decide +kernel
theorem dX11_dial_60 : decode cX11_dial 60 = .ok (.i2b, 1) := by decide +kernel
theorem dX11_dial_61 : decode cX11_dial 61 = .ok (.bastore, 1) := by decide +kernel
theorem dX11_dial_62 : decode cX11_dial 62 = .ok (.aload_n 3, 1) := by decide +kernel
theorem dX11_dial_63 : decode cX11_dial 63 = .ok (.dup, 1) := by decide +kernel
theorem dX11_dial_64 : decode cX11_dial 64 = .ok (.getfield 160, 3) := by decide +kernel
theorem dX11_dial_67 : decode cX11_dial 67 = .ok (.iconst 1, 1) := by decide +kernel
theorem dX11_dial_68 : decode cX11_dial 68 = .ok (.iadd, 1) := by decide +kernel
theorem dX11_dial_69 : decode cX11_dial 69 = .ok (.putfield 160, 3) := by decide +kernel
theorem dX11_dial_72 : decode cX11_dial 72 = .ok (.aload_n 3, 1) := by decide +kernel
theorem dX11_dial_73 : decode cX11_dial 73 = .ok (.getfield 160, 3) := by decide +kernel
theorem dX11_dial_76 : decode cX11_dial 76 = .ok (.ireturn, 1) := by decide +kernel
theorem dX11_say_0 : decode cX11_say 0 = .ok (.iload_n 1, 1) := by decide +kernel
theorem dX11_say_1 : decode cX11_say 1 = .ok (.invokestatic 115, 3) := by decide +kernel
theorem dX11_say_4 : decode cX11_say 4 = .ok (.ifCond .eq 16, 3) := by decide +kernel
theorem dX11_say_7 : decode cX11_say 7 = .ok (.iload_n 2, 1) := by decide +kernel
theorem dX11_say_8 : decode cX11_say 8 = .ok (.sipush (-8000), 3) := by decide +kernel
theorem dX11_say_11 : decode cX11_say 11 = .ok (.sipush 8000, 3) := by decide +kernel
theorem dX11_say_14 : decode cX11_say 14 = .ok (.invokestatic 79, 3) := by decide +kernel
theorem dX11_say_17 : decode cX11_say 17 = .ok (.ifCond .ne 6, 3) := by decide +kernel
theorem dX11_say_20 : decode cX11_say 20 = .ok (.bipush (-2), 2) := by decide +kernel
theorem dX11_say_22 : decode cX11_say 22 = .ok (.ireturn, 1) := by decide +kernel
theorem dX11_say_23 : decode cX11_say 23 = .ok (.aload_n 0, 1) := by decide +kernel
theorem dX11_say_24 : decode cX11_say 24 = .ok (.getfield 17, 3) := by decide +kernel
theorem dX11_say_27 : decode cX11_say 27 = .ok (.iload_n 1, 1) := by decide +kernel
theorem dX11_say_28 : decode cX11_say 28 = .ok (.aaload, 1) := by decide +kernel
theorem dX11_say_29 : decode cX11_say 29 = .ok (.getfield 167, 3) := by decide +kernel
theorem dX11_say_32 : decode cX11_say 32 = .ok (.istore_n 3, 1) := by decide +kernel
theorem dX11_say_33 : decode cX11_say 33 = .ok (.aload_n 0, 1) := by decide +kernel
theorem dX11_say_34 : decode cX11_say 34 = .ok (.getfield 17, 3) := by decide +kernel
theorem dX11_say_37 : decode cX11_say 37 = .ok (.iload_n 1, 1) := by decide +kernel
theorem dX11_say_38 : decode cX11_say 38 = .ok (.aaload, 1) := by decide +kernel
theorem dX11_say_39 : decode cX11_say 39 = .ok (.iload_n 2, 1) := by decide +kernel
theorem dX11_say_40 : decode cX11_say 40 = .ok (.putfield 167, 3) := by decide +kernel
theorem dX11_say_43 : decode cX11_say 43 = .ok (.iload_n 3, 1) := by decide +kernel
theorem dX11_say_44 : decode cX11_say 44 = .ok (.ireturn, 1) := by decide +kernel
theorem dX11_spoil_0 : decode cX11_spoil 0 = .ok (.iload_n 1, 1) := by decide +kernel
theorem dX11_spoil_1 : decode cX11_spoil 1 = .ok (.invokestatic 91, 3) := by decide +kernel
theorem dX11_spoil_4 : decode cX11_spoil 4 = .ok (.ifCond .eq 22, 3) := by decide +kernel
theorem dX11_spoil_7 : decode cX11_spoil 7 = .ok (.aload_n 0, 1) := by decide +kernel
theorem dX11_spoil_8 : decode cX11_spoil 8 = .ok (.iload_n 2, 1) := by decide +kernel
theorem dX11_spoil_9 : decode cX11_spoil 9 = .ok (.invokevirtual 170, 3) := by decide +kernel
theorem dX11_spoil_12 : decode cX11_spoil 12 = .ok (.ifCond .eq 14, 3) := by decide +kernel
theorem dX11_spoil_15 : decode cX11_spoil 15 = .ok (.iload_n 3, 1) := by decide +kernel
theorem dX11_spoil_16 : decode cX11_spoil 16 = .ok (.iconst 0, 1) := by decide +kernel
theorem dX11_spoil_17 : decode cX11_spoil 17 = .ok (.sipush 255, 3) := by decide +kernel
theorem dX11_spoil_20 : decode cX11_spoil 20 = .ok (.invokestatic 79, 3) := by decide +kernel
theorem dX11_spoil_23 : decode cX11_spoil 23 = .ok (.ifCond .ne 6, 3) := by decide +kernel
theorem dX11_spoil_26 : decode cX11_spoil 26 = .ok (.bipush (-2), 2) := by decide +kernel
theorem dX11_spoil_28 : decode cX11_spoil 28 = .ok (.ireturn, 1) := by decide +kernel
theorem dX11_spoil_29 : decode cX11_spoil 29 = .ok (.aload_n 0, 1) := by decide +kernel
theorem dX11_spoil_30 : decode cX11_spoil 30 = .ok (.getfield 37, 3) := by decide +kernel
theorem dX11_spoil_33 : decode cX11_spoil 33 = .ok (.iload_n 1, 1) := by decide +kernel
theorem dX11_spoil_34 : decode cX11_spoil 34 = .ok (.iload_n 2, 1) := by decide +kernel
theorem dX11_spoil_35 : decode cX11_spoil 35 = .ok (.iload_n 3, 1) := by decide +kernel
theorem dX11_spoil_36 : decode cX11_spoil 36 = .ok (.invokevirtual 173, 3) := by decide +kernel
theorem dX11_spoil_39 : decode cX11_spoil 39 = .ok (.ireturn, 1) := by decide +kernel
theorem dX11_lose_0 : decode cX11_lose 0 = .ok (.iload_n 1, 1) := by decide +kernel
theorem dX11_lose_1 : decode cX11_lose 1 = .ok (.invokestatic 91, 3) := by decide +kernel
theorem dX11_lose_4 : decode cX11_lose 4 = .ok (.ifCond .eq 11, 3) := by decide +kernel
theorem dX11_lose_7 : decode cX11_lose 7 = .ok (.aload_n 0, 1) := by decide +kernel
theorem dX11_lose_8 : decode cX11_lose 8 = .ok (.iload_n 2, 1) := by decide +kernel
theorem dX11_lose_9 : decode cX11_lose 9 = .ok (.invokevirtual 170, 3) := by decide +kernel
theorem dX11_lose_12 : decode cX11_lose 12 = .ok (.ifCond .ne 6, 3) := by decide +kernel
theorem dX11_lose_15 : decode cX11_lose 15 = .ok (.bipush (-2), 2) := by decide +kernel
theorem dX11_lose_17 : decode cX11_lose 17 = .ok (.ireturn, 1) := by decide +kernel
theorem dX11_lose_18 : decode cX11_lose 18 = .ok (.aload_n 0, 1) := by decide +kernel
theorem dX11_lose_19 : decode cX11_lose 19 = .ok (.getfield 41, 3) := by decide +kernel
theorem dX11_lose_22 : decode cX11_lose 22 = .ok (.iload_n 1, 1) := by decide +kernel
theorem dX11_lose_23 : decode cX11_lose 23 = .ok (.iload_n 2, 1) := by decide +kernel
theorem dX11_lose_24 : decode cX11_lose 24 = .ok (.iconst 0, 1) := by decide +kernel
theorem dX11_lose_25 : decode cX11_lose 25 = .ok (.invokevirtual 173, 3) := by decide +kernel
theorem dX11_lose_28 : decode cX11_lose 28 = .ok (.ireturn, 1) := by decide +kernel
theorem dX11_tick_0 : decode cX11_tick 0 = .ok (.iload_n 1, 1) := by decide +kernel
theorem dX11_tick_1 : decode cX11_tick 1 = .ok (.iconst 1, 1) := by decide +kernel
theorem dX11_tick_2 : decode cX11_tick 2 = .ok (.sipush 1000, 3) := by decide +kernel
theorem dX11_tick_5 : decode cX11_tick 5 = .ok (.invokestatic 79, 3) := by decide +kernel
theorem dX11_tick_8 : decode cX11_tick 8 = .ok (.ifCond .ne 6, 3) := by decide +kernel
theorem dX11_tick_11 : decode cX11_tick 11 = .ok (.bipush (-2), 2) := by decide +kernel
theorem dX11_tick_13 : decode cX11_tick 13 = .ok (.ireturn, 1) := by decide +kernel
theorem dX11_tick_14 : decode cX11_tick 14 = .ok (.aload_n 0, 1) := by decide +kernel
theorem dX11_tick_15 : decode cX11_tick 15 = .ok (.getfield 177, 3) := by decide +kernel
theorem dX11_tick_18 : decode cX11_tick 18 = .ok (.ldc 180, 2) := by decide +kernel
theorem dX11_tick_20 : decode cX11_tick 20 = .ok (.iload_n 1, 1) := by decide +kernel
theorem dX11_tick_21 : decode cX11_tick 21 = .ok (.isub, 1) := by decide +kernel
theorem dX11_tick_22 : decode cX11_tick 22 = .ok (.if_icmp .le 6, 3) := by decide +kernel
theorem dX11_tick_25 : decode cX11_tick 25 = .ok (.bipush (-3), 2) := by decide +kernel
theorem dX11_tick_27 : decode cX11_tick 27 = .ok (.ireturn, 1) := by decide +kernel
theorem dX11_tick_28 : decode cX11_tick 28 = .ok (.iconst 0, 1) := by decide +kernel
theorem dX11_tick_29 : decode cX11_tick 29 = .ok (.istore_n 2, 1) := by decide +kernel
theorem dX11_tick_30 : decode cX11_tick 30 = .ok (.iload_n 2, 1) := by decide +kernel
theorem dX11_tick_31 : decode cX11_tick 31 = .ok (.iload_n 1, 1) := by decide +kernel
theorem dX11_tick_32 : decode cX11_tick 32 = .ok (.if_icmp .ge 47, 3) := by decide +kernel
theorem dX11_tick_35 : decode cX11_tick 35 = .ok (.aload_n 0, 1) := by decide +kernel
theorem dX11_tick_36 : decode cX11_tick 36 = .ok (.invokevirtual 181, 3) := by decide +kernel
theorem dX11_tick_39 : decode cX11_tick 39 = .ok (.aload_n 0, 1) := by decide +kernel
theorem dX11_tick_40 : decode cX11_tick 40 = .ok (.invokevirtual 184, 3) := by decide +kernel
theorem dX11_tick_43 : decode cX11_tick 43 = .ok (.aload_n 0, 1) := by decide +kernel
theorem dX11_tick_44 : decode cX11_tick 44 = .ok (.invokevirtual 187, 3) := by decide +kernel
theorem dX11_tick_47 : decode cX11_tick 47 = .ok (.aload_n 0, 1) := by decide +kernel
theorem dX11_tick_48 : decode cX11_tick 48 = .ok (.invokevirtual 190, 3) := by decide +kernel
theorem dX11_tick_51 : decode cX11_tick 51 = .ok (.aload_n 0, 1) := by decide +kernel
theorem dX11_tick_52 : decode cX11_tick 52 = .ok (.invokevirtual 193, 3) := by decide +kernel
theorem dX11_tick_55 : decode cX11_tick 55 = .ok (.aload_n 0, 1) := by decide +kernel
theorem dX11_tick_56 : decode cX11_tick 56 = .ok (.invokevirtual 196, 3) := by decide +kernel
theorem dX11_tick_59 : decode cX11_tick 59 = .ok (.aload_n 0, 1) := by decide +kernel
theorem dX11_tick_60 : decode cX11_tick 60 = .ok (.invokevirtual 199, 3) := by decide +kernel
theorem dX11_tick_63 : decode cX11_tick 63 = .ok (.aload_n 0, 1) := by decide +kernel
theorem dX11_tick_64 : decode cX11_tick 64 = .ok (.dup, 1) := by decide +kernel
theorem dX11_tick_65 : decode cX11_tick 65 = .ok (.getfield 177, 3) := by decide +kernel
theorem dX11_tick_68 : decode cX11_tick 68 = .ok (.iconst 1, 1) := by decide +kernel
theorem dX11_tick_69 : decode cX11_tick 69 = .ok (.iadd, 1) := by decide +kernel
theorem dX11_tick_70 : decode cX11_tick 70 = .ok (.putfield 177, 3) := by decide +kernel
theorem dX11_tick_73 : decode cX11_tick 73 = .ok (.iinc 2 1, 3) := by decide +kernel
theorem dX11_tick_76 : decode cX11_tick 76 = .ok (.goto (-46), 3) := by decide +kernel
theorem dX11_tick_79 : decode cX11_tick 79 = .ok (.aload_n 0, 1) := by decide +kernel
theorem dX11_tick_80 : decode cX11_tick 80 = .ok (.getfield 177, 3) := by decide +kernel
theorem dX11_tick_83 : decode cX11_tick 83 = .ok (.ireturn, 1) := by decide +kernel
theorem dX11_line_0 : decode cX11_line 0 = .ok (.iload_n 1, 1) := by decide +kernel
theorem dX11_line_1 : decode cX11_line 1 = .ok (.invokestatic 115, 3) := by decide +kernel
theorem dX11_line_4 : decode cX11_line 4 = .ok (.ifCond .ne 6, 3) := by decide +kernel
theorem dX11_line_7 : decode cX11_line 7 = .ok (.bipush (-2), 2) := by decide +kernel
theorem dX11_line_9 : decode cX11_line 9 = .ok (.ireturn, 1) := by decide +kernel
theorem dX11_line_10 : decode cX11_line 10 = .ok (.aload_n 0, 1) := by decide +kernel
theorem dX11_line_11 : decode cX11_line 11 = .ok (.getfield 17, 3) := by decide +kernel
theorem dX11_line_14 : decode cX11_line 14 = .ok (.iload_n 1, 1) := by decide +kernel
theorem dX11_line_15 : decode cX11_line 15 = .ok (.aaload, 1) := by decide +kernel
theorem dX11_line_16 : decode cX11_line 16 = .ok (.astore_n 3, 1) := by decide +kernel
theorem dX11_line_17 : decode cX11_line 17 = .ok (.iload_n 2, 1) := by decide +kernel
theorem dX11_line_18 : decode cX11_line 18 = .ok (.tableswitch 165 0 8 #[50, 63, 68, 87, 115, 120, 133, 138, 160], 50) := by decide +kernel
theorem dX11_line_68 : decode cX11_line 68 = .ok (.aload_n 3, 1) := by decide +kernel
theorem dX11_line_69 : decode cX11_line 69 = .ok (.getfield 157, 3) := by decide +kernel
theorem dX11_line_72 : decode cX11_line 72 = .ok (.ifCond .eq 7, 3) := by decide +kernel
theorem dX11_line_75 : decode cX11_line 75 = .ok (.iconst 1, 1) := by decide +kernel
theorem dX11_line_76 : decode cX11_line 76 = .ok (.goto 4, 3) := by decide +kernel
theorem dX11_line_79 : decode cX11_line 79 = .ok (.iconst 0, 1) := by decide +kernel
theorem dX11_line_80 : decode cX11_line 80 = .ok (.ireturn, 1) := by decide +kernel
theorem dX11_line_81 : decode cX11_line 81 = .ok (.aload_n 3, 1) := by decide +kernel
theorem dX11_line_82 : decode cX11_line 82 = .ok (.invokevirtual 202, 3) := by decide +kernel
theorem dX11_line_85 : decode cX11_line 85 = .ok (.ireturn, 1) := by decide +kernel
theorem dX11_line_86 : decode cX11_line 86 = .ok (.aload_n 3, 1) := by decide +kernel
theorem dX11_line_87 : decode cX11_line 87 = .ok (.getfield 206, 3) := by decide +kernel
theorem dX11_line_90 : decode cX11_line 90 = .ok (.ifnonnull 7, 3) := by decide +kernel
theorem dX11_line_93 : decode cX11_line 93 = .ok (.iconst (-1), 1) := by decide +kernel
theorem dX11_line_94 : decode cX11_line 94 = .ok (.goto 10, 3) := by decide +kernel
theorem dX11_line_97 : decode cX11_line 97 = .ok (.aload_n 3, 1) := by decide +kernel
theorem dX11_line_98 : decode cX11_line 98 = .ok (.getfield 206, 3) := by decide +kernel
theorem dX11_line_101 : decode cX11_line 101 = .ok (.getfield 210, 3) := by decide +kernel
theorem dX11_line_104 : decode cX11_line 104 = .ok (.ireturn, 1) := by decide +kernel
theorem dX11_line_105 : decode cX11_line 105 = .ok (.aload_n 3, 1) := by decide +kernel
theorem dX11_line_106 : decode cX11_line 106 = .ok (.getfield 213, 3) := by decide +kernel
theorem dX11_line_109 : decode cX11_line 109 = .ok (.ifnonnull 7, 3) := by decide +kernel
theorem dX11_line_112 : decode cX11_line 112 = .ok (.iconst 0, 1) := by decide +kernel
theorem dX11_line_113 : decode cX11_line 113 = .ok (.goto 19, 3) := by decide +kernel
theorem dX11_line_116 : decode cX11_line 116 = .ok (.aload_n 3, 1) := by decide +kernel
theorem dX11_line_117 : decode cX11_line 117 = .ok (.getfield 213, 3) := by decide +kernel
theorem dX11_line_120 : decode cX11_line 120 = .ok (.getfield 210, 3) := by decide +kernel
theorem dX11_line_123 : decode cX11_line 123 = .ok (.iconst 2, 1) := by decide +kernel
theorem dX11_line_124 : decode cX11_line 124 = .ok (.if_icmp .ne 7, 3) := by decide +kernel
theorem dX11_line_127 : decode cX11_line 127 = .ok (.iconst 1, 1) := by decide +kernel
theorem dX11_line_128 : decode cX11_line 128 = .ok (.goto 4, 3) := by decide +kernel
theorem dX11_line_131 : decode cX11_line 131 = .ok (.iconst 2, 1) := by decide +kernel
theorem dX11_line_132 : decode cX11_line 132 = .ok (.ireturn, 1) := by decide +kernel
theorem dX11_line_133 : decode cX11_line 133 = .ok (.aload_n 3, 1) := by decide +kernel
theorem dX11_line_134 : decode cX11_line 134 = .ok (.getfield 216, 3) := by decide +kernel
theorem dX11_line_137 : decode cX11_line 137 = .ok (.ireturn, 1) := by decide +kernel
theorem dX11_line_138 : decode cX11_line 138 = .ok (.aload_n 3, 1) := by decide +kernel
theorem dX11_line_139 : decode cX11_line 139 = .ok (.getfield 219, 3) := by decide +kernel
theorem dX11_line_142 : decode cX11_line 142 = .ok (.ifCond .eq 7, 3) := by decide +kernel
theorem dX11_line_145 : decode cX11_line 145 = .ok (.iconst 1, 1) := by decide +kernel
theorem dX11_line_146 : decode cX11_line 146 = .ok (.goto 4, 3) := by decide +kernel
theorem dX11_line_149 : decode cX11_line 149 = .ok (.iconst 0, 1) := by decide +kernel
theorem dX11_line_150 : decode cX11_line 150 = .ok (.ireturn, 1) := by decide +kernel
theorem dX11_line_151 : decode cX11_line 151 = .ok (.aload_n 3, 1) := by decide +kernel
theorem dX11_line_152 : decode cX11_line 152 = .ok (.getfield 150, 3) := by decide +kernel
theorem dX11_line_155 : decode cX11_line 155 = .ok (.ireturn, 1) := by decide +kernel
theorem dX11_line_156 : decode cX11_line 156 = .ok (.aload_n 3, 1) := by decide +kernel
theorem dX11_line_157 : decode cX11_line 157 = .ok (.getfield 206, 3) := by decide +kernel
theorem dX11_line_160 : decode cX11_line 160 = .ok (.ifnonnull 7, 3) := by decide +kernel
theorem dX11_line_163 : decode cX11_line 163 = .ok (.iconst 0, 1) := by decide +kernel
theorem dX11_line_164 : decode cX11_line 164 = .ok (.goto 13, 3) := by decide +kernel
theorem dX11_line_167 : decode cX11_line 167 = .ok (.aload_n 3, 1) := by decide +kernel
theorem dX11_line_168 : decode cX11_line 168 = .ok (.getfield 206, 3) := by decide +kernel
theorem dX11_line_171 : decode cX11_line 171 = .ok (.getfield 222, 3) := by decide +kernel
theorem dX11_line_174 : decode cX11_line 174 = .ok (.invokestatic 83, 3) := by decide +kernel
theorem dX11_line_177 : decode cX11_line 177 = .ok (.ireturn, 1) := by decide +kernel
theorem dX11_line_178 : decode cX11_line 178 = .ok (.aload_n 3, 1) := by decide +kernel
theorem dX11_line_179 : decode cX11_line 179 = .ok (.getfield 160, 3) := by decide +kernel
theorem dX11_line_182 : decode cX11_line 182 = .ok (.ireturn, 1) := by decide +kernel
theorem dX11_line_183 : decode cX11_line 183 = .ok (.bipush (-2), 2) := by decide +kernel
theorem dX11_line_185 : decode cX11_line 185 = .ok (.ireturn, 1) := by decide +kernel
theorem dX11_partner_0 : decode cX11_partner 0 = .ok (.iload_n 1, 1) := by decide +kernel
theorem dX11_partner_1 : decode cX11_partner 1 = .ok (.invokestatic 115, 3) := by decide +kernel
theorem dX11_partner_4 : decode cX11_partner 4 = .ok (.ifCond .ne 6, 3) := by decide +kernel
theorem dX11_partner_7 : decode cX11_partner 7 = .ok (.bipush (-2), 2) := by decide +kernel
theorem dX11_partner_9 : decode cX11_partner 9 = .ok (.ireturn, 1) := by decide +kernel
theorem dX11_partner_10 : decode cX11_partner 10 = .ok (.aload_n 0, 1) := by decide +kernel
theorem dX11_partner_11 : decode cX11_partner 11 = .ok (.getfield 17, 3) := by decide +kernel
theorem dX11_partner_14 : decode cX11_partner 14 = .ok (.iload_n 1, 1) := by decide +kernel
theorem dX11_partner_15 : decode cX11_partner 15 = .ok (.aaload, 1) := by decide +kernel
theorem dX11_partner_16 : decode cX11_partner 16 = .ok (.getfield 206, 3) := by decide +kernel
theorem dX11_partner_19 : decode cX11_partner 19 = .ok (.astore_n 2, 1) := by decide +kernel
theorem dX11_partner_20 : decode cX11_partner 20 = .ok (.aload_n 2, 1) := by decide +kernel
theorem dX11_partner_21 : decode cX11_partner 21 = .ok (.ifnull 11, 3) := by decide +kernel
theorem dX11_partner_24 : decode cX11_partner 24 = .ok (.aload_n 2, 1) := by decide +kernel
theorem dX11_partner_25 : decode cX11_partner 25 = .ok (.getfield 210, 3) := by decide +kernel
theorem dX11_partner_28 : decode cX11_partner 28 = .ok (.iconst 3, 1) := by decide +kernel
theorem dX11_partner_29 : decode cX11_partner 29 = .ok (.if_icmp .eq 5, 3) := by decide +kernel
theorem dX11_partner_32 : decode cX11_partner 32 = .ok (.iconst (-1), 1) := by decide +kernel
theorem dX11_partner_33 : decode cX11_partner 33 = .ok (.ireturn, 1) := by decide +kernel
theorem dX11_partner_34 : decode cX11_partner 34 = .ok (.aload_n 2, 1) := by decide +kernel
theorem dX11_partner_35 : decode cX11_partner 35 = .ok (.getfield 223, 3) := by decide +kernel
theorem dX11_partner_38 : decode cX11_partner 38 = .ok (.aload_n 0, 1) := by decide +kernel
theorem dX11_partner_39 : decode cX11_partner 39 = .ok (.getfield 17, 3) := by decide +kernel
theorem dX11_partner_42 : decode cX11_partner 42 = .ok (.iload_n 1, 1) := by decide +kernel
theorem dX11_partner_43 : decode cX11_partner 43 = .ok (.aaload, 1) := by decide +kernel
theorem dX11_partner_44 : decode cX11_partner 44 = .ok (.if_acmp .eq 15, 3) := by decide +kernel
theorem dX11_partner_47 : decode cX11_partner 47 = .ok (.aload_n 2, 1) := by decide +kernel
theorem dX11_partner_48 : decode cX11_partner 48 = .ok (.getfield 223, 3) := by decide +kernel
theorem dX11_partner_51 : decode cX11_partner 51 = .ok (.aload_n 2, 1) := by decide +kernel
theorem dX11_partner_52 : decode cX11_partner 52 = .ok (.getfield 227, 3) := by decide +kernel
theorem dX11_partner_55 : decode cX11_partner 55 = .ok (.invokestatic 230, 3) := by decide +kernel
theorem dX11_partner_58 : decode cX11_partner 58 = .ok (.ireturn, 1) := by decide +kernel
theorem dX11_partner_59 : decode cX11_partner 59 = .ok (.aload_n 2, 1) := by decide +kernel
theorem dX11_partner_60 : decode cX11_partner 60 = .ok (.getfield 234, 3) := by decide +kernel
theorem dX11_partner_63 : decode cX11_partner 63 = .ok (.iconst (-1), 1) := by decide +kernel
theorem dX11_partner_64 : decode cX11_partner 64 = .ok (.if_icmp .eq 14, 3) := by decide +kernel
theorem dX11_partner_67 : decode cX11_partner 67 = .ok (.sipush 200, 3) := by decide +kernel
theorem dX11_partner_70 : decode cX11_partner 70 = .ok (.aload_n 2, 1) := by decide +kernel
theorem dX11_partner_71 : decode cX11_partner 71 = .ok (.getfield 234, 3) := by decide +kernel
theorem dX11_partner_74 : decode cX11_partner 74 = .ok (.iadd, 1) := by decide +kernel
theorem dX11_partner_75 : decode cX11_partner 75 = .ok (.goto 14, 3) := by decide +kernel
theorem dX11_partner_78 : decode cX11_partner 78 = .ok (.aload_n 2, 1) := by decide +kernel
theorem dX11_partner_79 : decode cX11_partner 79 = .ok (.getfield 237, 3) := by decide +kernel
theorem dX11_partner_82 : decode cX11_partner 82 = .ok (.aload_n 2, 1) := by decide +kernel
theorem dX11_partner_83 : decode cX11_partner 83 = .ok (.getfield 240, 3) := by decide +kernel
theorem dX11_partner_86 : decode cX11_partner 86 = .ok (.invokestatic 230, 3) := by decide +kernel
theorem dX11_partner_89 : decode cX11_partner 89 = .ok (.ireturn, 1) := by decide +kernel
theorem dX11_heard_0 : decode cX11_heard 0 = .ok (.iload_n 1, 1) := by decide +kernel
theorem dX11_heard_1 : decode cX11_heard 1 = .ok (.invokestatic 115, 3) := by decide +kernel
theorem dX11_heard_4 : decode cX11_heard 4 = .ok (.ifCond .eq 15, 3) := by decide +kernel
theorem dX11_heard_7 : decode cX11_heard 7 = .ok (.aload_n 0, 1) := by decide +kernel
