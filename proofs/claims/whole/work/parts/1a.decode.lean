theorem d_SlippedStreams_isRegister_0 : decode b_SlippedStreams_isRegister 0 = .ok (.iload_n 0, 1) := by decide +kernel
theorem d_SlippedStreams_isRegister_1 : decode b_SlippedStreams_isRegister 1 = .ok (.ifCond .lt 13, 3) := by decide +kernel
theorem d_SlippedStreams_isRegister_4 : decode b_SlippedStreams_isRegister 4 = .ok (.iload_n 0, 1) := by decide +kernel
theorem d_SlippedStreams_isRegister_5 : decode b_SlippedStreams_isRegister 5 = .ok (.bipush 8, 2) := by decide +kernel
theorem d_SlippedStreams_isRegister_7 : decode b_SlippedStreams_isRegister 7 = .ok (.if_icmp .ge 7, 3) := by decide +kernel
theorem d_SlippedStreams_isRegister_10 : decode b_SlippedStreams_isRegister 10 = .ok (.iconst 1, 1) := by decide +kernel
theorem d_SlippedStreams_isRegister_11 : decode b_SlippedStreams_isRegister 11 = .ok (.goto 4, 3) := by decide +kernel
theorem d_SlippedStreams_isRegister_14 : decode b_SlippedStreams_isRegister 14 = .ok (.iconst 0, 1) := by decide +kernel
theorem d_SlippedStreams_isRegister_15 : decode b_SlippedStreams_isRegister 15 = .ok (.ireturn, 1) := by decide +kernel
theorem d_Program_isSound_0 : decode b_Program_isSound 0 = .ok (.iload_n 0, 1) := by decide +kernel
theorem d_Program_isSound_1 : decode b_Program_isSound 1 = .ok (.tableswitch 133 0 8 #[51, 56, 56, 56, 83, 83, 103, 103, 51], 51) := by decide +kernel
theorem d_Program_isSound_52 : decode b_Program_isSound 52 = .ok (.iload_n 1, 1) := by decide +kernel
theorem d_Program_isSound_53 : decode b_Program_isSound 53 = .ok (.invokestatic 43, 3) := by decide +kernel
theorem d_Program_isSound_56 : decode b_Program_isSound 56 = .ok (.ireturn, 1) := by decide +kernel
theorem d_Program_isSound_57 : decode b_Program_isSound 57 = .ok (.iload_n 1, 1) := by decide +kernel
theorem d_Program_isSound_58 : decode b_Program_isSound 58 = .ok (.invokestatic 43, 3) := by decide +kernel
theorem d_Program_isSound_61 : decode b_Program_isSound 61 = .ok (.ifCond .eq 21, 3) := by decide +kernel
theorem d_Program_isSound_64 : decode b_Program_isSound 64 = .ok (.iload_n 2, 1) := by decide +kernel
theorem d_Program_isSound_65 : decode b_Program_isSound 65 = .ok (.invokestatic 43, 3) := by decide +kernel
theorem d_Program_isSound_68 : decode b_Program_isSound 68 = .ok (.ifCond .eq 14, 3) := by decide +kernel
theorem d_Program_isSound_71 : decode b_Program_isSound 71 = .ok (.iload_n 3, 1) := by decide +kernel
theorem d_Program_isSound_72 : decode b_Program_isSound 72 = .ok (.invokestatic 43, 3) := by decide +kernel
theorem d_Program_isSound_75 : decode b_Program_isSound 75 = .ok (.ifCond .eq 7, 3) := by decide +kernel
theorem d_Program_isSound_78 : decode b_Program_isSound 78 = .ok (.iconst 1, 1) := by decide +kernel
theorem d_Program_isSound_79 : decode b_Program_isSound 79 = .ok (.goto 4, 3) := by decide +kernel
theorem d_Program_isSound_82 : decode b_Program_isSound 82 = .ok (.iconst 0, 1) := by decide +kernel
theorem d_Program_isSound_83 : decode b_Program_isSound 83 = .ok (.ireturn, 1) := by decide +kernel
theorem d_Program_isSound_84 : decode b_Program_isSound 84 = .ok (.iload_n 1, 1) := by decide +kernel
theorem d_Program_isSound_85 : decode b_Program_isSound 85 = .ok (.invokestatic 43, 3) := by decide +kernel
theorem d_Program_isSound_88 : decode b_Program_isSound 88 = .ok (.ifCond .eq 14, 3) := by decide +kernel
theorem d_Program_isSound_91 : decode b_Program_isSound 91 = .ok (.iload_n 2, 1) := by decide +kernel
theorem d_Program_isSound_92 : decode b_Program_isSound 92 = .ok (.invokestatic 43, 3) := by decide +kernel
theorem d_Program_isSound_95 : decode b_Program_isSound 95 = .ok (.ifCond .eq 7, 3) := by decide +kernel
theorem d_Program_isSound_98 : decode b_Program_isSound 98 = .ok (.iconst 1, 1) := by decide +kernel
theorem d_Program_isSound_99 : decode b_Program_isSound 99 = .ok (.goto 4, 3) := by decide +kernel
theorem d_Program_isSound_102 : decode b_Program_isSound 102 = .ok (.iconst 0, 1) := by decide +kernel
theorem d_Program_isSound_103 : decode b_Program_isSound 103 = .ok (.ireturn, 1) := by decide +kernel
theorem d_Program_isSound_104 : decode b_Program_isSound 104 = .ok (.iload_n 1, 1) := by decide +kernel
theorem d_Program_isSound_105 : decode b_Program_isSound 105 = .ok (.invokestatic 43, 3) := by decide +kernel
theorem d_Program_isSound_108 : decode b_Program_isSound 108 = .ok (.ifCond .eq 24, 3) := by decide +kernel
theorem d_Program_isSound_111 : decode b_Program_isSound 111 = .ok (.iload_n 2, 1) := by decide +kernel
theorem d_Program_isSound_112 : decode b_Program_isSound 112 = .ok (.invokestatic 43, 3) := by decide +kernel
theorem d_Program_isSound_115 : decode b_Program_isSound 115 = .ok (.ifCond .eq 17, 3) := by decide +kernel
theorem d_Program_isSound_118 : decode b_Program_isSound 118 = .ok (.iload_n 3, 1) := by decide +kernel
theorem d_Program_isSound_119 : decode b_Program_isSound 119 = .ok (.ifCond .lt 13, 3) := by decide +kernel
theorem d_Program_isSound_122 : decode b_Program_isSound 122 = .ok (.iload_n 3, 1) := by decide +kernel
theorem d_Program_isSound_123 : decode b_Program_isSound 123 = .ok (.bipush 24, 2) := by decide +kernel
theorem d_Program_isSound_125 : decode b_Program_isSound 125 = .ok (.if_icmp .gt 7, 3) := by decide +kernel
theorem d_Program_isSound_128 : decode b_Program_isSound 128 = .ok (.iconst 1, 1) := by decide +kernel
theorem d_Program_isSound_129 : decode b_Program_isSound 129 = .ok (.goto 4, 3) := by decide +kernel
theorem d_Program_isSound_132 : decode b_Program_isSound 132 = .ok (.iconst 0, 1) := by decide +kernel
theorem d_Program_isSound_133 : decode b_Program_isSound 133 = .ok (.ireturn, 1) := by decide +kernel
theorem d_Program_isSound_134 : decode b_Program_isSound 134 = .ok (.iconst 0, 1) := by decide +kernel
theorem d_Program_isSound_135 : decode b_Program_isSound 135 = .ok (.ireturn, 1) := by decide +kernel
theorem d_Program_isArithmetic_0 : decode b_Program_isArithmetic 0 = .ok (.aload_n 0, 1) := by decide +kernel
theorem d_Program_isArithmetic_1 : decode b_Program_isArithmetic 1 = .ok (.getfield 9, 3) := by decide +kernel
theorem d_Program_isArithmetic_4 : decode b_Program_isArithmetic 4 = .ok (.iload_n 1, 1) := by decide +kernel
theorem d_Program_isArithmetic_5 : decode b_Program_isArithmetic 5 = .ok (.iaload, 1) := by decide +kernel
theorem d_Program_isArithmetic_6 : decode b_Program_isArithmetic 6 = .ok (.iconst 1, 1) := by decide +kernel
theorem d_Program_isArithmetic_7 : decode b_Program_isArithmetic 7 = .ok (.if_icmp .eq 23, 3) := by decide +kernel
theorem d_Program_isArithmetic_10 : decode b_Program_isArithmetic 10 = .ok (.aload_n 0, 1) := by decide +kernel
theorem d_Program_isArithmetic_11 : decode b_Program_isArithmetic 11 = .ok (.getfield 9, 3) := by decide +kernel
theorem d_Program_isArithmetic_14 : decode b_Program_isArithmetic 14 = .ok (.iload_n 1, 1) := by decide +kernel
theorem d_Program_isArithmetic_15 : decode b_Program_isArithmetic 15 = .ok (.iaload, 1) := by decide +kernel
theorem d_Program_isArithmetic_16 : decode b_Program_isArithmetic 16 = .ok (.iconst 2, 1) := by decide +kernel
theorem d_Program_isArithmetic_17 : decode b_Program_isArithmetic 17 = .ok (.if_icmp .eq 13, 3) := by decide +kernel
theorem d_Program_isArithmetic_20 : decode b_Program_isArithmetic 20 = .ok (.aload_n 0, 1) := by decide +kernel
theorem d_Program_isArithmetic_21 : decode b_Program_isArithmetic 21 = .ok (.getfield 9, 3) := by decide +kernel
theorem d_Program_isArithmetic_24 : decode b_Program_isArithmetic 24 = .ok (.iload_n 1, 1) := by decide +kernel
theorem d_Program_isArithmetic_25 : decode b_Program_isArithmetic 25 = .ok (.iaload, 1) := by decide +kernel
theorem d_Program_isArithmetic_26 : decode b_Program_isArithmetic 26 = .ok (.iconst 3, 1) := by decide +kernel
theorem d_Program_isArithmetic_27 : decode b_Program_isArithmetic 27 = .ok (.if_icmp .ne 7, 3) := by decide +kernel
theorem d_Program_isArithmetic_30 : decode b_Program_isArithmetic 30 = .ok (.iconst 1, 1) := by decide +kernel
theorem d_Program_isArithmetic_31 : decode b_Program_isArithmetic 31 = .ok (.goto 4, 3) := by decide +kernel
theorem d_Program_isArithmetic_34 : decode b_Program_isArithmetic 34 = .ok (.iconst 0, 1) := by decide +kernel
theorem d_Program_isArithmetic_35 : decode b_Program_isArithmetic 35 = .ok (.ireturn, 1) := by decide +kernel
theorem d_Program_isAddressRegister_0 : decode b_Program_isAddressRegister 0 = .ok (.iload_n 1, 1) := by decide +kernel
theorem d_Program_isAddressRegister_1 : decode b_Program_isAddressRegister 1 = .ok (.iconst (-1), 1) := by decide +kernel
theorem d_Program_isAddressRegister_2 : decode b_Program_isAddressRegister 2 = .ok (.if_icmp .eq 18, 3) := by decide +kernel
theorem d_Program_isAddressRegister_5 : decode b_Program_isAddressRegister 5 = .ok (.aload_n 0, 1) := by decide +kernel
theorem d_Program_isAddressRegister_6 : decode b_Program_isAddressRegister 6 = .ok (.getfield 54, 3) := by decide +kernel
theorem d_Program_isAddressRegister_9 : decode b_Program_isAddressRegister 9 = .ok (.iload_n 1, 1) := by decide +kernel
theorem d_Program_isAddressRegister_10 : decode b_Program_isAddressRegister 10 = .ok (.ishr, 1) := by decide +kernel
theorem d_Program_isAddressRegister_11 : decode b_Program_isAddressRegister 11 = .ok (.iconst 1, 1) := by decide +kernel
theorem d_Program_isAddressRegister_12 : decode b_Program_isAddressRegister 12 = .ok (.iand, 1) := by decide +kernel
theorem d_Program_isAddressRegister_13 : decode b_Program_isAddressRegister 13 = .ok (.ifCond .eq 7, 3) := by decide +kernel
theorem d_Program_isAddressRegister_16 : decode b_Program_isAddressRegister 16 = .ok (.iconst 1, 1) := by decide +kernel
theorem d_Program_isAddressRegister_17 : decode b_Program_isAddressRegister 17 = .ok (.goto 4, 3) := by decide +kernel
theorem d_Program_isAddressRegister_20 : decode b_Program_isAddressRegister 20 = .ok (.iconst 0, 1) := by decide +kernel
theorem d_Program_isAddressRegister_21 : decode b_Program_isAddressRegister 21 = .ok (.ireturn, 1) := by decide +kernel
theorem d_Program_findAddressRegisters_0 : decode b_Program_findAddressRegisters 0 = .ok (.aload_n 0, 1) := by decide +kernel
theorem d_Program_findAddressRegisters_1 : decode b_Program_findAddressRegisters 1 = .ok (.iconst 0, 1) := by decide +kernel
theorem d_Program_findAddressRegisters_2 : decode b_Program_findAddressRegisters 2 = .ok (.putfield 54, 3) := by decide +kernel
theorem d_Program_findAddressRegisters_5 : decode b_Program_findAddressRegisters 5 = .ok (.iconst 0, 1) := by decide +kernel
theorem d_Program_findAddressRegisters_6 : decode b_Program_findAddressRegisters 6 = .ok (.istore_n 1, 1) := by decide +kernel
theorem d_Program_findAddressRegisters_7 : decode b_Program_findAddressRegisters 7 = .ok (.iload_n 1, 1) := by decide +kernel
theorem d_Program_findAddressRegisters_8 : decode b_Program_findAddressRegisters 8 = .ok (.aload_n 0, 1) := by decide +kernel
theorem d_Program_findAddressRegisters_9 : decode b_Program_findAddressRegisters 9 = .ok (.getfield 47, 3) := by decide +kernel
theorem d_Program_findAddressRegisters_12 : decode b_Program_findAddressRegisters 12 = .ok (.if_icmp .ge 46, 3) := by decide +kernel
theorem d_Program_findAddressRegisters_15 : decode b_Program_findAddressRegisters 15 = .ok (.aload_n 0, 1) := by decide +kernel
theorem d_Program_findAddressRegisters_16 : decode b_Program_findAddressRegisters 16 = .ok (.getfield 9, 3) := by decide +kernel
theorem d_Program_findAddressRegisters_19 : decode b_Program_findAddressRegisters 19 = .ok (.iload_n 1, 1) := by decide +kernel
theorem d_Program_findAddressRegisters_20 : decode b_Program_findAddressRegisters 20 = .ok (.iaload, 1) := by decide +kernel
theorem d_Program_findAddressRegisters_21 : decode b_Program_findAddressRegisters 21 = .ok (.iconst 4, 1) := by decide +kernel
theorem d_Program_findAddressRegisters_22 : decode b_Program_findAddressRegisters 22 = .ok (.if_icmp .eq 13, 3) := by decide +kernel
theorem d_Program_findAddressRegisters_25 : decode b_Program_findAddressRegisters 25 = .ok (.aload_n 0, 1) := by decide +kernel
theorem d_Program_findAddressRegisters_26 : decode b_Program_findAddressRegisters 26 = .ok (.getfield 9, 3) := by decide +kernel
theorem d_Program_findAddressRegisters_29 : decode b_Program_findAddressRegisters 29 = .ok (.iload_n 1, 1) := by decide +kernel
theorem d_Program_findAddressRegisters_30 : decode b_Program_findAddressRegisters 30 = .ok (.iaload, 1) := by decide +kernel
theorem d_Program_findAddressRegisters_31 : decode b_Program_findAddressRegisters 31 = .ok (.iconst 5, 1) := by decide +kernel
theorem d_Program_findAddressRegisters_32 : decode b_Program_findAddressRegisters 32 = .ok (.if_icmp .ne 20, 3) := by decide +kernel
theorem d_Program_findAddressRegisters_35 : decode b_Program_findAddressRegisters 35 = .ok (.aload_n 0, 1) := by decide +kernel
theorem d_Program_findAddressRegisters_36 : decode b_Program_findAddressRegisters 36 = .ok (.dup, 1) := by decide +kernel
theorem d_Program_findAddressRegisters_37 : decode b_Program_findAddressRegisters 37 = .ok (.getfield 54, 3) := by decide +kernel
theorem d_Program_findAddressRegisters_40 : decode b_Program_findAddressRegisters 40 = .ok (.iconst 1, 1) := by decide +kernel
theorem d_Program_findAddressRegisters_41 : decode b_Program_findAddressRegisters 41 = .ok (.aload_n 0, 1) := by decide +kernel
theorem d_Program_findAddressRegisters_42 : decode b_Program_findAddressRegisters 42 = .ok (.getfield 18, 3) := by decide +kernel
theorem d_Program_findAddressRegisters_45 : decode b_Program_findAddressRegisters 45 = .ok (.iload_n 1, 1) := by decide +kernel
theorem d_Program_findAddressRegisters_46 : decode b_Program_findAddressRegisters 46 = .ok (.iaload, 1) := by decide +kernel
theorem d_Program_findAddressRegisters_47 : decode b_Program_findAddressRegisters 47 = .ok (.ishl, 1) := by decide +kernel
theorem d_Program_findAddressRegisters_48 : decode b_Program_findAddressRegisters 48 = .ok (.ior, 1) := by decide +kernel
theorem d_Program_findAddressRegisters_49 : decode b_Program_findAddressRegisters 49 = .ok (.putfield 54, 3) := by decide +kernel
theorem d_Program_findAddressRegisters_52 : decode b_Program_findAddressRegisters 52 = .ok (.iinc 1 1, 3) := by decide +kernel
theorem d_Program_findAddressRegisters_55 : decode b_Program_findAddressRegisters 55 = .ok (.goto (-48), 3) := by decide +kernel
theorem d_Program_findAddressRegisters_58 : decode b_Program_findAddressRegisters 58 = .ok (.iconst 0, 1) := by decide +kernel
theorem d_Program_findAddressRegisters_59 : decode b_Program_findAddressRegisters 59 = .ok (.istore_n 1, 1) := by decide +kernel
theorem d_Program_findAddressRegisters_60 : decode b_Program_findAddressRegisters 60 = .ok (.iload_n 1, 1) := by decide +kernel
theorem d_Program_findAddressRegisters_61 : decode b_Program_findAddressRegisters 61 = .ok (.bipush 8, 2) := by decide +kernel
theorem d_Program_findAddressRegisters_63 : decode b_Program_findAddressRegisters 63 = .ok (.if_icmp .ge 72, 3) := by decide +kernel
theorem d_Program_findAddressRegisters_66 : decode b_Program_findAddressRegisters 66 = .ok (.iconst 0, 1) := by decide +kernel
theorem d_Program_findAddressRegisters_67 : decode b_Program_findAddressRegisters 67 = .ok (.istore_n 2, 1) := by decide +kernel
theorem d_Program_findAddressRegisters_68 : decode b_Program_findAddressRegisters 68 = .ok (.iload_n 2, 1) := by decide +kernel
theorem d_Program_findAddressRegisters_69 : decode b_Program_findAddressRegisters 69 = .ok (.aload_n 0, 1) := by decide +kernel
theorem d_Program_findAddressRegisters_70 : decode b_Program_findAddressRegisters 70 = .ok (.getfield 47, 3) := by decide +kernel
theorem d_Program_findAddressRegisters_73 : decode b_Program_findAddressRegisters 73 = .ok (.if_icmp .ge 56, 3) := by decide +kernel
theorem d_Program_findAddressRegisters_76 : decode b_Program_findAddressRegisters 76 = .ok (.aload_n 0, 1) := by decide +kernel
theorem d_Program_findAddressRegisters_77 : decode b_Program_findAddressRegisters 77 = .ok (.iload_n 2, 1) := by decide +kernel
theorem d_Program_findAddressRegisters_78 : decode b_Program_findAddressRegisters 78 = .ok (.invokevirtual 70, 3) := by decide +kernel
theorem d_Program_findAddressRegisters_81 : decode b_Program_findAddressRegisters 81 = .ok (.ifCond .eq 42, 3) := by decide +kernel
theorem d_Program_findAddressRegisters_84 : decode b_Program_findAddressRegisters 84 = .ok (.aload_n 0, 1) := by decide +kernel
theorem d_Program_findAddressRegisters_85 : decode b_Program_findAddressRegisters 85 = .ok (.aload_n 0, 1) := by decide +kernel
theorem d_Program_findAddressRegisters_86 : decode b_Program_findAddressRegisters 86 = .ok (.getfield 15, 3) := by decide +kernel
theorem d_Program_findAddressRegisters_89 : decode b_Program_findAddressRegisters 89 = .ok (.iload_n 2, 1) := by decide +kernel
theorem d_Program_findAddressRegisters_90 : decode b_Program_findAddressRegisters 90 = .ok (.iaload, 1) := by decide +kernel
theorem d_Program_findAddressRegisters_91 : decode b_Program_findAddressRegisters 91 = .ok (.invokevirtual 73, 3) := by decide +kernel
theorem d_Program_findAddressRegisters_94 : decode b_Program_findAddressRegisters 94 = .ok (.ifCond .eq 29, 3) := by decide +kernel
theorem d_Program_findAddressRegisters_97 : decode b_Program_findAddressRegisters 97 = .ok (.aload_n 0, 1) := by decide +kernel
theorem d_Program_findAddressRegisters_98 : decode b_Program_findAddressRegisters 98 = .ok (.dup, 1) := by decide +kernel
theorem d_Program_findAddressRegisters_99 : decode b_Program_findAddressRegisters 99 = .ok (.getfield 54, 3) := by decide +kernel
theorem d_Program_findAddressRegisters_102 : decode b_Program_findAddressRegisters 102 = .ok (.iconst 1, 1) := by decide +kernel
theorem d_Program_findAddressRegisters_103 : decode b_Program_findAddressRegisters 103 = .ok (.aload_n 0, 1) := by decide +kernel
theorem d_Program_findAddressRegisters_104 : decode b_Program_findAddressRegisters 104 = .ok (.getfield 18, 3) := by decide +kernel
theorem d_Program_findAddressRegisters_107 : decode b_Program_findAddressRegisters 107 = .ok (.iload_n 2, 1) := by decide +kernel
theorem d_Program_findAddressRegisters_108 : decode b_Program_findAddressRegisters 108 = .ok (.iaload, 1) := by decide +kernel
theorem d_Program_findAddressRegisters_109 : decode b_Program_findAddressRegisters 109 = .ok (.ishl, 1) := by decide +kernel
theorem d_Program_findAddressRegisters_110 : decode b_Program_findAddressRegisters 110 = .ok (.iconst 1, 1) := by decide +kernel
theorem d_Program_findAddressRegisters_111 : decode b_Program_findAddressRegisters 111 = .ok (.aload_n 0, 1) := by decide +kernel
theorem d_Program_findAddressRegisters_112 : decode b_Program_findAddressRegisters 112 = .ok (.getfield 21, 3) := by decide +kernel
theorem d_Program_findAddressRegisters_115 : decode b_Program_findAddressRegisters 115 = .ok (.iload_n 2, 1) := by decide +kernel
theorem d_Program_findAddressRegisters_116 : decode b_Program_findAddressRegisters 116 = .ok (.iaload, 1) := by decide +kernel
theorem d_Program_findAddressRegisters_117 : decode b_Program_findAddressRegisters 117 = .ok (.ishl, 1) := by decide +kernel
theorem d_Program_findAddressRegisters_118 : decode b_Program_findAddressRegisters 118 = .ok (.ior, 1) := by decide +kernel
theorem d_Program_findAddressRegisters_119 : decode b_Program_findAddressRegisters 119 = .ok (.ior, 1) := by decide +kernel
theorem d_Program_findAddressRegisters_120 : decode b_Program_findAddressRegisters 120 = .ok (.putfield 54, 3) := by decide +kernel
theorem d_Program_findAddressRegisters_123 : decode b_Program_findAddressRegisters 123 = .ok (.iinc 2 1, 3) := by decide +kernel
theorem d_Program_findAddressRegisters_126 : decode b_Program_findAddressRegisters 126 = .ok (.goto (-58), 3) := by decide +kernel
theorem d_Program_findAddressRegisters_129 : decode b_Program_findAddressRegisters 129 = .ok (.iinc 1 1, 3) := by decide +kernel
theorem d_Program_findAddressRegisters_132 : decode b_Program_findAddressRegisters 132 = .ok (.goto (-72), 3) := by decide +kernel
theorem d_Program_findAddressRegisters_135 : decode b_Program_findAddressRegisters 135 = .ok (.return_, 1) := by decide +kernel
theorem d_Program_isBranch_0 : decode b_Program_isBranch 0 = .ok (.aload_n 0, 1) := by decide +kernel
theorem d_Program_isBranch_1 : decode b_Program_isBranch 1 = .ok (.getfield 9, 3) := by decide +kernel
theorem d_Program_isBranch_4 : decode b_Program_isBranch 4 = .ok (.iload_n 1, 1) := by decide +kernel
theorem d_Program_isBranch_5 : decode b_Program_isBranch 5 = .ok (.iaload, 1) := by decide +kernel
theorem d_Program_isBranch_6 : decode b_Program_isBranch 6 = .ok (.bipush 6, 2) := by decide +kernel
theorem d_Program_isBranch_8 : decode b_Program_isBranch 8 = .ok (.if_icmp .eq 14, 3) := by decide +kernel
theorem d_Program_isBranch_11 : decode b_Program_isBranch 11 = .ok (.aload_n 0, 1) := by decide +kernel
theorem d_Program_isBranch_12 : decode b_Program_isBranch 12 = .ok (.getfield 9, 3) := by decide +kernel
theorem d_Program_isBranch_15 : decode b_Program_isBranch 15 = .ok (.iload_n 1, 1) := by decide +kernel
theorem d_Program_isBranch_16 : decode b_Program_isBranch 16 = .ok (.iaload, 1) := by decide +kernel
theorem d_Program_isBranch_17 : decode b_Program_isBranch 17 = .ok (.bipush 7, 2) := by decide +kernel
theorem d_Program_isBranch_19 : decode b_Program_isBranch 19 = .ok (.if_icmp .ne 7, 3) := by decide +kernel
theorem d_Program_isBranch_22 : decode b_Program_isBranch 22 = .ok (.iconst 1, 1) := by decide +kernel
theorem d_Program_isBranch_23 : decode b_Program_isBranch 23 = .ok (.goto 4, 3) := by decide +kernel
theorem d_Program_isBranch_26 : decode b_Program_isBranch 26 = .ok (.iconst 0, 1) := by decide +kernel
theorem d_Program_isBranch_27 : decode b_Program_isBranch 27 = .ok (.ireturn, 1) := by decide +kernel
theorem d_Program_belongsToAddresses_0 : decode b_Program_belongsToAddresses 0 = .ok (.aload_n 0, 1) := by decide +kernel
theorem d_Program_belongsToAddresses_1 : decode b_Program_belongsToAddresses 1 = .ok (.iload_n 1, 1) := by decide +kernel
theorem d_Program_belongsToAddresses_2 : decode b_Program_belongsToAddresses 2 = .ok (.invokevirtual 76, 3) := by decide +kernel
theorem d_Program_belongsToAddresses_5 : decode b_Program_belongsToAddresses 5 = .ok (.ifCond .eq 35, 3) := by decide +kernel
theorem d_Program_belongsToAddresses_8 : decode b_Program_belongsToAddresses 8 = .ok (.aload_n 0, 1) := by decide +kernel
theorem d_Program_belongsToAddresses_9 : decode b_Program_belongsToAddresses 9 = .ok (.aload_n 0, 1) := by decide +kernel
theorem d_Program_belongsToAddresses_10 : decode b_Program_belongsToAddresses 10 = .ok (.getfield 15, 3) := by decide +kernel
theorem d_Program_belongsToAddresses_13 : decode b_Program_belongsToAddresses 13 = .ok (.iload_n 1, 1) := by decide +kernel
theorem d_Program_belongsToAddresses_14 : decode b_Program_belongsToAddresses 14 = .ok (.iaload, 1) := by decide +kernel
theorem d_Program_belongsToAddresses_15 : decode b_Program_belongsToAddresses 15 = .ok (.invokevirtual 73, 3) := by decide +kernel
theorem d_Program_belongsToAddresses_18 : decode b_Program_belongsToAddresses 18 = .ok (.ifCond .eq 20, 3) := by decide +kernel
theorem d_Program_belongsToAddresses_21 : decode b_Program_belongsToAddresses 21 = .ok (.aload_n 0, 1) := by decide +kernel
theorem d_Program_belongsToAddresses_22 : decode b_Program_belongsToAddresses 22 = .ok (.aload_n 0, 1) := by decide +kernel
theorem d_Program_belongsToAddresses_23 : decode b_Program_belongsToAddresses 23 = .ok (.getfield 18, 3) := by decide +kernel
theorem d_Program_belongsToAddresses_26 : decode b_Program_belongsToAddresses 26 = .ok (.iload_n 1, 1) := by decide +kernel
theorem d_Program_belongsToAddresses_27 : decode b_Program_belongsToAddresses 27 = .ok (.iaload, 1) := by decide +kernel
theorem d_Program_belongsToAddresses_28 : decode b_Program_belongsToAddresses 28 = .ok (.invokevirtual 73, 3) := by decide +kernel
theorem d_Program_belongsToAddresses_31 : decode b_Program_belongsToAddresses 31 = .ok (.ifCond .eq 7, 3) := by decide +kernel
theorem d_Program_belongsToAddresses_34 : decode b_Program_belongsToAddresses 34 = .ok (.iconst 1, 1) := by decide +kernel
theorem d_Program_belongsToAddresses_35 : decode b_Program_belongsToAddresses 35 = .ok (.goto 4, 3) := by decide +kernel
theorem d_Program_belongsToAddresses_38 : decode b_Program_belongsToAddresses 38 = .ok (.iconst 0, 1) := by decide +kernel
theorem d_Program_belongsToAddresses_39 : decode b_Program_belongsToAddresses 39 = .ok (.ireturn, 1) := by decide +kernel
theorem d_Program_belongsToAddresses_40 : decode b_Program_belongsToAddresses 40 = .ok (.aload_n 0, 1) := by decide +kernel
theorem d_Program_belongsToAddresses_41 : decode b_Program_belongsToAddresses 41 = .ok (.getfield 9, 3) := by decide +kernel
theorem d_Program_belongsToAddresses_44 : decode b_Program_belongsToAddresses 44 = .ok (.iload_n 1, 1) := by decide +kernel
theorem d_Program_belongsToAddresses_45 : decode b_Program_belongsToAddresses 45 = .ok (.iaload, 1) := by decide +kernel
theorem d_Program_belongsToAddresses_46 : decode b_Program_belongsToAddresses 46 = .ok (.iconst 5, 1) := by decide +kernel
theorem d_Program_belongsToAddresses_47 : decode b_Program_belongsToAddresses 47 = .ok (.if_icmp .eq 27, 3) := by decide +kernel
theorem d_Program_belongsToAddresses_50 : decode b_Program_belongsToAddresses 50 = .ok (.aload_n 0, 1) := by decide +kernel
theorem d_Program_belongsToAddresses_51 : decode b_Program_belongsToAddresses 51 = .ok (.getfield 9, 3) := by decide +kernel
theorem d_Program_belongsToAddresses_54 : decode b_Program_belongsToAddresses 54 = .ok (.iload_n 1, 1) := by decide +kernel
theorem d_Program_belongsToAddresses_55 : decode b_Program_belongsToAddresses 55 = .ok (.iaload, 1) := by decide +kernel
theorem d_Program_belongsToAddresses_56 : decode b_Program_belongsToAddresses 56 = .ok (.bipush 8, 2) := by decide +kernel
theorem d_Program_belongsToAddresses_58 : decode b_Program_belongsToAddresses 58 = .ok (.if_icmp .eq 20, 3) := by decide +kernel
theorem d_Program_belongsToAddresses_61 : decode b_Program_belongsToAddresses 61 = .ok (.aload_n 0, 1) := by decide +kernel
theorem d_Program_belongsToAddresses_62 : decode b_Program_belongsToAddresses 62 = .ok (.aload_n 0, 1) := by decide +kernel
theorem d_Program_belongsToAddresses_63 : decode b_Program_belongsToAddresses 63 = .ok (.getfield 15, 3) := by decide +kernel
theorem d_Program_belongsToAddresses_66 : decode b_Program_belongsToAddresses 66 = .ok (.iload_n 1, 1) := by decide +kernel
theorem d_Program_belongsToAddresses_67 : decode b_Program_belongsToAddresses 67 = .ok (.iaload, 1) := by decide +kernel
theorem d_Program_belongsToAddresses_68 : decode b_Program_belongsToAddresses 68 = .ok (.invokevirtual 73, 3) := by decide +kernel
theorem d_Program_belongsToAddresses_71 : decode b_Program_belongsToAddresses 71 = .ok (.ifCond .eq 7, 3) := by decide +kernel
theorem d_Program_belongsToAddresses_74 : decode b_Program_belongsToAddresses 74 = .ok (.iconst 1, 1) := by decide +kernel
theorem d_Program_belongsToAddresses_75 : decode b_Program_belongsToAddresses 75 = .ok (.goto 4, 3) := by decide +kernel
theorem d_Program_belongsToAddresses_78 : decode b_Program_belongsToAddresses 78 = .ok (.iconst 0, 1) := by decide +kernel
theorem d_Program_belongsToAddresses_79 : decode b_Program_belongsToAddresses 79 = .ok (.ireturn, 1) := by decide +kernel
theorem d_Program_firstRead_0 : decode b_Program_firstRead 0 = .ok (.aload_n 0, 1) := by decide +kernel
theorem d_Program_firstRead_1 : decode b_Program_firstRead 1 = .ok (.iload_n 1, 1) := by decide +kernel
theorem d_Program_firstRead_2 : decode b_Program_firstRead 2 = .ok (.invokevirtual 70, 3) := by decide +kernel
theorem d_Program_firstRead_5 : decode b_Program_firstRead 5 = .ok (.ifCond .eq 10, 3) := by decide +kernel
theorem d_Program_firstRead_8 : decode b_Program_firstRead 8 = .ok (.aload_n 0, 1) := by decide +kernel
theorem d_Program_firstRead_9 : decode b_Program_firstRead 9 = .ok (.getfield 18, 3) := by decide +kernel
theorem d_Program_firstRead_12 : decode b_Program_firstRead 12 = .ok (.iload_n 1, 1) := by decide +kernel
theorem d_Program_firstRead_13 : decode b_Program_firstRead 13 = .ok (.iaload, 1) := by decide +kernel
theorem d_Program_firstRead_14 : decode b_Program_firstRead 14 = .ok (.ireturn, 1) := by decide +kernel
theorem d_Program_firstRead_15 : decode b_Program_firstRead 15 = .ok (.aload_n 0, 1) := by decide +kernel
theorem d_Program_firstRead_16 : decode b_Program_firstRead 16 = .ok (.iload_n 1, 1) := by decide +kernel
theorem d_Program_firstRead_17 : decode b_Program_firstRead 17 = .ok (.invokevirtual 76, 3) := by decide +kernel
theorem d_Program_firstRead_20 : decode b_Program_firstRead 20 = .ok (.ifCond .ne 14, 3) := by decide +kernel
theorem d_Program_firstRead_23 : decode b_Program_firstRead 23 = .ok (.aload_n 0, 1) := by decide +kernel
theorem d_Program_firstRead_24 : decode b_Program_firstRead 24 = .ok (.getfield 9, 3) := by decide +kernel
theorem d_Program_firstRead_27 : decode b_Program_firstRead 27 = .ok (.iload_n 1, 1) := by decide +kernel
theorem d_Program_firstRead_28 : decode b_Program_firstRead 28 = .ok (.iaload, 1) := by decide +kernel
theorem d_Program_firstRead_29 : decode b_Program_firstRead 29 = .ok (.bipush 8, 2) := by decide +kernel
theorem d_Program_firstRead_31 : decode b_Program_firstRead 31 = .ok (.if_icmp .ne 12, 3) := by decide +kernel
theorem d_Program_firstRead_34 : decode b_Program_firstRead 34 = .ok (.aload_n 0, 1) := by decide +kernel
theorem d_Program_firstRead_35 : decode b_Program_firstRead 35 = .ok (.getfield 15, 3) := by decide +kernel
theorem d_Program_firstRead_38 : decode b_Program_firstRead 38 = .ok (.iload_n 1, 1) := by decide +kernel
theorem d_Program_firstRead_39 : decode b_Program_firstRead 39 = .ok (.iaload, 1) := by decide +kernel
theorem d_Program_firstRead_40 : decode b_Program_firstRead 40 = .ok (.goto 4, 3) := by decide +kernel
theorem d_Program_firstRead_43 : decode b_Program_firstRead 43 = .ok (.iconst (-1), 1) := by decide +kernel
theorem d_Program_firstRead_44 : decode b_Program_firstRead 44 = .ok (.ireturn, 1) := by decide +kernel
theorem d_Program_secondRead_0 : decode b_Program_secondRead 0 = .ok (.aload_n 0, 1) := by decide +kernel
theorem d_Program_secondRead_1 : decode b_Program_secondRead 1 = .ok (.iload_n 1, 1) := by decide +kernel
theorem d_Program_secondRead_2 : decode b_Program_secondRead 2 = .ok (.invokevirtual 70, 3) := by decide +kernel
theorem d_Program_secondRead_5 : decode b_Program_secondRead 5 = .ok (.ifCond .eq 10, 3) := by decide +kernel
theorem d_Program_secondRead_8 : decode b_Program_secondRead 8 = .ok (.aload_n 0, 1) := by decide +kernel
theorem d_Program_secondRead_9 : decode b_Program_secondRead 9 = .ok (.getfield 21, 3) := by decide +kernel
theorem d_Program_secondRead_12 : decode b_Program_secondRead 12 = .ok (.iload_n 1, 1) := by decide +kernel
theorem d_Program_secondRead_13 : decode b_Program_secondRead 13 = .ok (.iaload, 1) := by decide +kernel
theorem d_Program_secondRead_14 : decode b_Program_secondRead 14 = .ok (.ireturn, 1) := by decide +kernel
theorem d_Program_secondRead_15 : decode b_Program_secondRead 15 = .ok (.aload_n 0, 1) := by decide +kernel
theorem d_Program_secondRead_16 : decode b_Program_secondRead 16 = .ok (.iload_n 1, 1) := by decide +kernel
theorem d_Program_secondRead_17 : decode b_Program_secondRead 17 = .ok (.invokevirtual 76, 3) := by decide +kernel
theorem d_Program_secondRead_20 : decode b_Program_secondRead 20 = .ok (.ifCond .eq 12, 3) := by decide +kernel
theorem d_Program_secondRead_23 : decode b_Program_secondRead 23 = .ok (.aload_n 0, 1) := by decide +kernel
theorem d_Program_secondRead_24 : decode b_Program_secondRead 24 = .ok (.getfield 18, 3) := by decide +kernel
theorem d_Program_secondRead_27 : decode b_Program_secondRead 27 = .ok (.iload_n 1, 1) := by decide +kernel
theorem d_Program_secondRead_28 : decode b_Program_secondRead 28 = .ok (.iaload, 1) := by decide +kernel
theorem d_Program_secondRead_29 : decode b_Program_secondRead 29 = .ok (.goto 4, 3) := by decide +kernel
theorem d_Program_secondRead_32 : decode b_Program_secondRead 32 = .ok (.iconst (-1), 1) := by decide +kernel
theorem d_Program_secondRead_33 : decode b_Program_secondRead 33 = .ok (.ireturn, 1) := by decide +kernel
theorem d_Program_findPassed_0 : decode b_Program_findPassed 0 = .ok (.aload_n 0, 1) := by decide +kernel
theorem d_Program_findPassed_1 : decode b_Program_findPassed 1 = .ok (.getfield 24, 3) := by decide +kernel
theorem d_Program_findPassed_4 : decode b_Program_findPassed 4 = .ok (.iload_n 1, 1) := by decide +kernel
theorem d_Program_findPassed_5 : decode b_Program_findPassed 5 = .ok (.iaload, 1) := by decide +kernel
theorem d_Program_findPassed_6 : decode b_Program_findPassed 6 = .ok (.iconst 1, 1) := by decide +kernel
theorem d_Program_findPassed_7 : decode b_Program_findPassed 7 = .ok (.if_icmp .ne 7, 3) := by decide +kernel
theorem d_Program_findPassed_10 : decode b_Program_findPassed 10 = .ok (.iconst 1, 1) := by decide +kernel
theorem d_Program_findPassed_11 : decode b_Program_findPassed 11 = .ok (.goto 4, 3) := by decide +kernel
theorem d_Program_findPassed_14 : decode b_Program_findPassed 14 = .ok (.iconst 0, 1) := by decide +kernel
theorem d_Program_findPassed_15 : decode b_Program_findPassed 15 = .ok (.istore_n 2, 1) := by decide +kernel
theorem d_Program_findPassed_16 : decode b_Program_findPassed 16 = .ok (.aload_n 0, 1) := by decide +kernel
theorem d_Program_findPassed_17 : decode b_Program_findPassed 17 = .ok (.iload_n 1, 1) := by decide +kernel
theorem d_Program_findPassed_18 : decode b_Program_findPassed 18 = .ok (.invokevirtual 79, 3) := by decide +kernel
theorem d_Program_findPassed_21 : decode b_Program_findPassed 21 = .ok (.istore_n 3, 1) := by decide +kernel
theorem d_Program_findPassed_22 : decode b_Program_findPassed 22 = .ok (.aload_n 0, 1) := by decide +kernel
theorem d_Program_findPassed_23 : decode b_Program_findPassed 23 = .ok (.iload_n 1, 1) := by decide +kernel
theorem d_Program_findPassed_24 : decode b_Program_findPassed 24 = .ok (.invokevirtual 83, 3) := by decide +kernel
theorem d_Program_findPassed_27 : decode b_Program_findPassed 27 = .ok (.istore 4, 2) := by decide +kernel
theorem d_Program_findPassed_29 : decode b_Program_findPassed 29 = .ok (.aload_n 0, 1) := by decide +kernel
theorem d_Program_findPassed_30 : decode b_Program_findPassed 30 = .ok (.getfield 27, 3) := by decide +kernel
theorem d_Program_findPassed_33 : decode b_Program_findPassed 33 = .ok (.iload_n 1, 1) := by decide +kernel
theorem d_Program_findPassed_34 : decode b_Program_findPassed 34 = .ok (.iload_n 2, 1) := by decide +kernel
theorem d_Program_findPassed_35 : decode b_Program_findPassed 35 = .ok (.ifCond .eq 15, 3) := by decide +kernel
theorem d_Program_findPassed_38 : decode b_Program_findPassed 38 = .ok (.aload_n 0, 1) := by decide +kernel
theorem d_Program_findPassed_39 : decode b_Program_findPassed 39 = .ok (.iload_n 3, 1) := by decide +kernel
theorem d_Program_findPassed_40 : decode b_Program_findPassed 40 = .ok (.invokevirtual 73, 3) := by decide +kernel
theorem d_Program_findPassed_43 : decode b_Program_findPassed 43 = .ok (.ifCond .eq 7, 3) := by decide +kernel
theorem d_Program_findPassed_46 : decode b_Program_findPassed 46 = .ok (.iload_n 3, 1) := by decide +kernel
theorem d_Program_findPassed_47 : decode b_Program_findPassed 47 = .ok (.goto 4, 3) := by decide +kernel
theorem d_Program_findPassed_50 : decode b_Program_findPassed 50 = .ok (.iconst (-1), 1) := by decide +kernel
theorem d_Program_findPassed_51 : decode b_Program_findPassed 51 = .ok (.iastore, 1) := by decide +kernel
theorem d_Program_findPassed_52 : decode b_Program_findPassed 52 = .ok (.aload_n 0, 1) := by decide +kernel
theorem d_Program_findPassed_53 : decode b_Program_findPassed 53 = .ok (.getfield 30, 3) := by decide +kernel
theorem d_Program_findPassed_56 : decode b_Program_findPassed 56 = .ok (.iload_n 1, 1) := by decide +kernel
theorem d_Program_findPassed_57 : decode b_Program_findPassed 57 = .ok (.iload_n 2, 1) := by decide +kernel
theorem d_Program_findPassed_58 : decode b_Program_findPassed 58 = .ok (.ifCond .eq 23, 3) := by decide +kernel
theorem d_Program_findPassed_61 : decode b_Program_findPassed 61 = .ok (.iload 4, 2) := by decide +kernel
theorem d_Program_findPassed_63 : decode b_Program_findPassed 63 = .ok (.iload_n 3, 1) := by decide +kernel
theorem d_Program_findPassed_64 : decode b_Program_findPassed 64 = .ok (.if_icmp .eq 17, 3) := by decide +kernel
theorem d_Program_findPassed_67 : decode b_Program_findPassed 67 = .ok (.aload_n 0, 1) := by decide +kernel
theorem d_Program_findPassed_68 : decode b_Program_findPassed 68 = .ok (.iload 4, 2) := by decide +kernel
theorem d_Program_findPassed_70 : decode b_Program_findPassed 70 = .ok (.invokevirtual 73, 3) := by decide +kernel
theorem d_Program_findPassed_73 : decode b_Program_findPassed 73 = .ok (.ifCond .eq 8, 3) := by decide +kernel
theorem d_Program_findPassed_76 : decode b_Program_findPassed 76 = .ok (.iload 4, 2) := by decide +kernel
theorem d_Program_findPassed_78 : decode b_Program_findPassed 78 = .ok (.goto 4, 3) := by decide +kernel
theorem d_Program_findPassed_81 : decode b_Program_findPassed 81 = .ok (.iconst (-1), 1) := by decide +kernel
theorem d_Program_findPassed_82 : decode b_Program_findPassed 82 = .ok (.iastore, 1) := by decide +kernel
theorem d_Program_findPassed_83 : decode b_Program_findPassed 83 = .ok (.aload_n 0, 1) := by decide +kernel
theorem d_Program_findPassed_84 : decode b_Program_findPassed 84 = .ok (.getfield 33, 3) := by decide +kernel
theorem d_Program_findPassed_87 : decode b_Program_findPassed 87 = .ok (.iload_n 1, 1) := by decide +kernel
theorem d_Program_findPassed_88 : decode b_Program_findPassed 88 = .ok (.aload_n 0, 1) := by decide +kernel
theorem d_Program_findPassed_89 : decode b_Program_findPassed 89 = .ok (.getfield 27, 3) := by decide +kernel
theorem d_Program_findPassed_92 : decode b_Program_findPassed 92 = .ok (.iload_n 1, 1) := by decide +kernel
theorem d_Program_findPassed_93 : decode b_Program_findPassed 93 = .ok (.iaload, 1) := by decide +kernel
theorem d_Program_findPassed_94 : decode b_Program_findPassed 94 = .ok (.iconst (-1), 1) := by decide +kernel
theorem d_Program_findPassed_95 : decode b_Program_findPassed 95 = .ok (.if_icmp .ne 7, 3) := by decide +kernel
theorem d_Program_findPassed_98 : decode b_Program_findPassed 98 = .ok (.iconst 0, 1) := by decide +kernel
theorem d_Program_findPassed_99 : decode b_Program_findPassed 99 = .ok (.goto 4, 3) := by decide +kernel
theorem d_Program_findPassed_102 : decode b_Program_findPassed 102 = .ok (.iconst 1, 1) := by decide +kernel
theorem d_Program_findPassed_103 : decode b_Program_findPassed 103 = .ok (.aload_n 0, 1) := by decide +kernel
theorem d_Program_findPassed_104 : decode b_Program_findPassed 104 = .ok (.getfield 30, 3) := by decide +kernel
theorem d_Program_findPassed_107 : decode b_Program_findPassed 107 = .ok (.iload_n 1, 1) := by decide +kernel
theorem d_Program_findPassed_108 : decode b_Program_findPassed 108 = .ok (.iaload, 1) := by decide +kernel
theorem d_Program_findPassed_109 : decode b_Program_findPassed 109 = .ok (.iconst (-1), 1) := by decide +kernel
theorem d_Program_findPassed_110 : decode b_Program_findPassed 110 = .ok (.if_icmp .ne 7, 3) := by decide +kernel
theorem d_Program_findPassed_113 : decode b_Program_findPassed 113 = .ok (.iconst 0, 1) := by decide +kernel
theorem d_Program_findPassed_114 : decode b_Program_findPassed 114 = .ok (.goto 4, 3) := by decide +kernel
theorem d_Program_findPassed_117 : decode b_Program_findPassed 117 = .ok (.iconst 1, 1) := by decide +kernel
theorem d_Program_findPassed_118 : decode b_Program_findPassed 118 = .ok (.iadd, 1) := by decide +kernel
theorem d_Program_findPassed_119 : decode b_Program_findPassed 119 = .ok (.iastore, 1) := by decide +kernel
theorem d_Program_findPassed_120 : decode b_Program_findPassed 120 = .ok (.return_, 1) := by decide +kernel
theorem d_Program_findNothings_0 : decode b_Program_findNothings 0 = .ok (.aload_n 0, 1) := by decide +kernel
theorem d_Program_findNothings_1 : decode b_Program_findNothings 1 = .ok (.getfield 24, 3) := by decide +kernel
theorem d_Program_findNothings_4 : decode b_Program_findNothings 4 = .ok (.iload_n 1, 1) := by decide +kernel
theorem d_Program_findNothings_5 : decode b_Program_findNothings 5 = .ok (.iaload, 1) := by decide +kernel
theorem d_Program_findNothings_6 : decode b_Program_findNothings 6 = .ok (.ifCond .ne 7, 3) := by decide +kernel
theorem d_Program_findNothings_9 : decode b_Program_findNothings 9 = .ok (.iconst 1, 1) := by decide +kernel
theorem d_Program_findNothings_10 : decode b_Program_findNothings 10 = .ok (.goto 4, 3) := by decide +kernel
theorem d_Program_findNothings_13 : decode b_Program_findNothings 13 = .ok (.iconst 0, 1) := by decide +kernel
theorem d_Program_findNothings_14 : decode b_Program_findNothings 14 = .ok (.istore_n 2, 1) := by decide +kernel
theorem d_Program_findNothings_15 : decode b_Program_findNothings 15 = .ok (.aload_n 0, 1) := by decide +kernel
theorem d_Program_findNothings_16 : decode b_Program_findNothings 16 = .ok (.getfield 9, 3) := by decide +kernel
theorem d_Program_findNothings_19 : decode b_Program_findNothings 19 = .ok (.iload_n 1, 1) := by decide +kernel
theorem d_Program_findNothings_20 : decode b_Program_findNothings 20 = .ok (.iaload, 1) := by decide +kernel
theorem d_Program_findNothings_21 : decode b_Program_findNothings 21 = .ok (.iconst 5, 1) := by decide +kernel
theorem d_Program_findNothings_22 : decode b_Program_findNothings 22 = .ok (.if_icmp .ne 20, 3) := by decide +kernel
theorem d_Program_findNothings_25 : decode b_Program_findNothings 25 = .ok (.aload_n 0, 1) := by decide +kernel
theorem d_Program_findNothings_26 : decode b_Program_findNothings 26 = .ok (.aload_n 0, 1) := by decide +kernel
theorem d_Program_findNothings_27 : decode b_Program_findNothings 27 = .ok (.getfield 15, 3) := by decide +kernel
theorem d_Program_findNothings_30 : decode b_Program_findNothings 30 = .ok (.iload_n 1, 1) := by decide +kernel
theorem d_Program_findNothings_31 : decode b_Program_findNothings 31 = .ok (.iaload, 1) := by decide +kernel
theorem d_Program_findNothings_32 : decode b_Program_findNothings 32 = .ok (.invokevirtual 73, 3) := by decide +kernel
theorem d_Program_findNothings_35 : decode b_Program_findNothings 35 = .ok (.ifCond .ne 7, 3) := by decide +kernel
theorem d_Program_findNothings_38 : decode b_Program_findNothings 38 = .ok (.iconst 1, 1) := by decide +kernel
theorem d_Program_findNothings_39 : decode b_Program_findNothings 39 = .ok (.goto 4, 3) := by decide +kernel
theorem d_Program_findNothings_42 : decode b_Program_findNothings 42 = .ok (.iconst 0, 1) := by decide +kernel
theorem d_Program_findNothings_43 : decode b_Program_findNothings 43 = .ok (.istore_n 3, 1) := by decide +kernel
theorem d_Program_findNothings_44 : decode b_Program_findNothings 44 = .ok (.aload_n 0, 1) := by decide +kernel
theorem d_Program_findNothings_45 : decode b_Program_findNothings 45 = .ok (.getfield 36, 3) := by decide +kernel
theorem d_Program_findNothings_48 : decode b_Program_findNothings 48 = .ok (.iload_n 1, 1) := by decide +kernel
theorem d_Program_findNothings_49 : decode b_Program_findNothings 49 = .ok (.iload_n 2, 1) := by decide +kernel
theorem d_Program_findNothings_50 : decode b_Program_findNothings 50 = .ok (.ifCond .ne 34, 3) := by decide +kernel
theorem d_Program_findNothings_53 : decode b_Program_findNothings 53 = .ok (.aload_n 0, 1) := by decide +kernel
theorem d_Program_findNothings_54 : decode b_Program_findNothings 54 = .ok (.getfield 9, 3) := by decide +kernel
theorem d_Program_findNothings_57 : decode b_Program_findNothings 57 = .ok (.iload_n 1, 1) := by decide +kernel
theorem d_Program_findNothings_58 : decode b_Program_findNothings 58 = .ok (.iaload, 1) := by decide +kernel
theorem d_Program_findNothings_59 : decode b_Program_findNothings 59 = .ok (.iconst 4, 1) := by decide +kernel
theorem d_Program_findNothings_60 : decode b_Program_findNothings 60 = .ok (.if_icmp .eq 24, 3) := by decide +kernel
theorem d_Program_findNothings_63 : decode b_Program_findNothings 63 = .ok (.aload_n 0, 1) := by decide +kernel
theorem d_Program_findNothings_64 : decode b_Program_findNothings 64 = .ok (.iload_n 1, 1) := by decide +kernel
theorem d_Program_findNothings_65 : decode b_Program_findNothings 65 = .ok (.invokevirtual 76, 3) := by decide +kernel
theorem d_Program_findNothings_68 : decode b_Program_findNothings 68 = .ok (.ifCond .ne 16, 3) := by decide +kernel
theorem d_Program_findNothings_71 : decode b_Program_findNothings 71 = .ok (.aload_n 0, 1) := by decide +kernel
theorem d_Program_findNothings_72 : decode b_Program_findNothings 72 = .ok (.getfield 33, 3) := by decide +kernel
theorem d_Program_findNothings_75 : decode b_Program_findNothings 75 = .ok (.iload_n 1, 1) := by decide +kernel
theorem d_Program_findNothings_76 : decode b_Program_findNothings 76 = .ok (.iaload, 1) := by decide +kernel
theorem d_Program_findNothings_77 : decode b_Program_findNothings 77 = .ok (.ifCond .ne 7, 3) := by decide +kernel
theorem d_Program_findNothings_80 : decode b_Program_findNothings 80 = .ok (.iconst 1, 1) := by decide +kernel
theorem d_Program_findNothings_81 : decode b_Program_findNothings 81 = .ok (.goto 4, 3) := by decide +kernel
theorem d_Program_findNothings_84 : decode b_Program_findNothings 84 = .ok (.iconst 0, 1) := by decide +kernel
theorem d_Program_findNothings_85 : decode b_Program_findNothings 85 = .ok (.bastore, 1) := by decide +kernel
theorem d_Program_findNothings_86 : decode b_Program_findNothings 86 = .ok (.aload_n 0, 1) := by decide +kernel
theorem d_Program_findNothings_87 : decode b_Program_findNothings 87 = .ok (.getfield 40, 3) := by decide +kernel
theorem d_Program_findNothings_90 : decode b_Program_findNothings 90 = .ok (.iload_n 1, 1) := by decide +kernel
