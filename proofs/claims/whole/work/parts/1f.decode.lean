theorem d_SlippedStreamsModel_slice_3 : decode b_SlippedStreamsModel_slice 3 = .ok (.bipush 8, 2) := by decide +kernel
theorem d_SlippedStreamsModel_slice_5 : decode b_SlippedStreamsModel_slice 5 = .ok (.if_icmp .ge 16, 3) := by decide +kernel
theorem d_SlippedStreamsModel_slice_8 : decode b_SlippedStreamsModel_slice 8 = .ok (.aload_n 0, 1) := by decide +kernel
theorem d_SlippedStreamsModel_slice_9 : decode b_SlippedStreamsModel_slice 9 = .ok (.getfield 22, 3) := by decide +kernel
theorem d_SlippedStreamsModel_slice_12 : decode b_SlippedStreamsModel_slice 12 = .ok (.iload_n 1, 1) := by decide +kernel
theorem d_SlippedStreamsModel_slice_13 : decode b_SlippedStreamsModel_slice 13 = .ok (.iconst 0, 1) := by decide +kernel
theorem d_SlippedStreamsModel_slice_14 : decode b_SlippedStreamsModel_slice 14 = .ok (.bastore, 1) := by decide +kernel
theorem d_SlippedStreamsModel_slice_15 : decode b_SlippedStreamsModel_slice 15 = .ok (.iinc 1 1, 3) := by decide +kernel
theorem d_SlippedStreamsModel_slice_18 : decode b_SlippedStreamsModel_slice 18 = .ok (.goto (-16), 3) := by decide +kernel
theorem d_SlippedStreamsModel_slice_21 : decode b_SlippedStreamsModel_slice 21 = .ok (.iconst 0, 1) := by decide +kernel
theorem d_SlippedStreamsModel_slice_22 : decode b_SlippedStreamsModel_slice 22 = .ok (.istore_n 1, 1) := by decide +kernel
theorem d_SlippedStreamsModel_slice_23 : decode b_SlippedStreamsModel_slice 23 = .ok (.iload_n 1, 1) := by decide +kernel
theorem d_SlippedStreamsModel_slice_24 : decode b_SlippedStreamsModel_slice 24 = .ok (.bipush 9, 2) := by decide +kernel
theorem d_SlippedStreamsModel_slice_26 : decode b_SlippedStreamsModel_slice 26 = .ok (.if_icmp .ge 109, 3) := by decide +kernel
theorem d_SlippedStreamsModel_slice_29 : decode b_SlippedStreamsModel_slice 29 = .ok (.iconst 0, 1) := by decide +kernel
theorem d_SlippedStreamsModel_slice_30 : decode b_SlippedStreamsModel_slice 30 = .ok (.istore_n 2, 1) := by decide +kernel
theorem d_SlippedStreamsModel_slice_31 : decode b_SlippedStreamsModel_slice 31 = .ok (.iload_n 2, 1) := by decide +kernel
theorem d_SlippedStreamsModel_slice_32 : decode b_SlippedStreamsModel_slice 32 = .ok (.aload_n 0, 1) := by decide +kernel
theorem d_SlippedStreamsModel_slice_33 : decode b_SlippedStreamsModel_slice 33 = .ok (.getfield 62, 3) := by decide +kernel
theorem d_SlippedStreamsModel_slice_36 : decode b_SlippedStreamsModel_slice 36 = .ok (.if_icmp .ge 93, 3) := by decide +kernel
theorem d_SlippedStreamsModel_slice_39 : decode b_SlippedStreamsModel_slice 39 = .ok (.aload_n 0, 1) := by decide +kernel
theorem d_SlippedStreamsModel_slice_40 : decode b_SlippedStreamsModel_slice 40 = .ok (.getfield 7, 3) := by decide +kernel
theorem d_SlippedStreamsModel_slice_43 : decode b_SlippedStreamsModel_slice 43 = .ok (.iload_n 2, 1) := by decide +kernel
theorem d_SlippedStreamsModel_slice_44 : decode b_SlippedStreamsModel_slice 44 = .ok (.iaload, 1) := by decide +kernel
theorem d_SlippedStreamsModel_slice_45 : decode b_SlippedStreamsModel_slice 45 = .ok (.invokestatic 105, 3) := by decide +kernel
theorem d_SlippedStreamsModel_slice_48 : decode b_SlippedStreamsModel_slice 48 = .ok (.ifCond .eq 21, 3) := by decide +kernel
theorem d_SlippedStreamsModel_slice_51 : decode b_SlippedStreamsModel_slice 51 = .ok (.aload_n 0, 1) := by decide +kernel
theorem d_SlippedStreamsModel_slice_52 : decode b_SlippedStreamsModel_slice 52 = .ok (.getfield 22, 3) := by decide +kernel
theorem d_SlippedStreamsModel_slice_55 : decode b_SlippedStreamsModel_slice 55 = .ok (.aload_n 0, 1) := by decide +kernel
theorem d_SlippedStreamsModel_slice_56 : decode b_SlippedStreamsModel_slice 56 = .ok (.getfield 13, 3) := by decide +kernel
theorem d_SlippedStreamsModel_slice_59 : decode b_SlippedStreamsModel_slice 59 = .ok (.iload_n 2, 1) := by decide +kernel
theorem d_SlippedStreamsModel_slice_60 : decode b_SlippedStreamsModel_slice 60 = .ok (.iaload, 1) := by decide +kernel
theorem d_SlippedStreamsModel_slice_61 : decode b_SlippedStreamsModel_slice 61 = .ok (.baload, 1) := by decide +kernel
theorem d_SlippedStreamsModel_slice_62 : decode b_SlippedStreamsModel_slice 62 = .ok (.ifCond .eq 7, 3) := by decide +kernel
theorem d_SlippedStreamsModel_slice_65 : decode b_SlippedStreamsModel_slice 65 = .ok (.iconst 1, 1) := by decide +kernel
theorem d_SlippedStreamsModel_slice_66 : decode b_SlippedStreamsModel_slice 66 = .ok (.goto 4, 3) := by decide +kernel
theorem d_SlippedStreamsModel_slice_69 : decode b_SlippedStreamsModel_slice 69 = .ok (.iconst 0, 1) := by decide +kernel
theorem d_SlippedStreamsModel_slice_70 : decode b_SlippedStreamsModel_slice 70 = .ok (.istore_n 3, 1) := by decide +kernel
theorem d_SlippedStreamsModel_slice_71 : decode b_SlippedStreamsModel_slice 71 = .ok (.iload_n 3, 1) := by decide +kernel
theorem d_SlippedStreamsModel_slice_72 : decode b_SlippedStreamsModel_slice 72 = .ok (.ifCond .ne 23, 3) := by decide +kernel
theorem d_SlippedStreamsModel_slice_75 : decode b_SlippedStreamsModel_slice 75 = .ok (.aload_n 0, 1) := by decide +kernel
theorem d_SlippedStreamsModel_slice_76 : decode b_SlippedStreamsModel_slice 76 = .ok (.getfield 7, 3) := by decide +kernel
theorem d_SlippedStreamsModel_slice_79 : decode b_SlippedStreamsModel_slice 79 = .ok (.iload_n 2, 1) := by decide +kernel
theorem d_SlippedStreamsModel_slice_80 : decode b_SlippedStreamsModel_slice 80 = .ok (.iaload, 1) := by decide +kernel
theorem d_SlippedStreamsModel_slice_81 : decode b_SlippedStreamsModel_slice 81 = .ok (.iconst 4, 1) := by decide +kernel
theorem d_SlippedStreamsModel_slice_82 : decode b_SlippedStreamsModel_slice 82 = .ok (.if_icmp .eq 13, 3) := by decide +kernel
theorem d_SlippedStreamsModel_slice_85 : decode b_SlippedStreamsModel_slice 85 = .ok (.aload_n 0, 1) := by decide +kernel
theorem d_SlippedStreamsModel_slice_86 : decode b_SlippedStreamsModel_slice 86 = .ok (.getfield 7, 3) := by decide +kernel
theorem d_SlippedStreamsModel_slice_89 : decode b_SlippedStreamsModel_slice 89 = .ok (.iload_n 2, 1) := by decide +kernel
theorem d_SlippedStreamsModel_slice_90 : decode b_SlippedStreamsModel_slice 90 = .ok (.iaload, 1) := by decide +kernel
theorem d_SlippedStreamsModel_slice_91 : decode b_SlippedStreamsModel_slice 91 = .ok (.iconst 5, 1) := by decide +kernel
theorem d_SlippedStreamsModel_slice_92 : decode b_SlippedStreamsModel_slice 92 = .ok (.if_icmp .ne 15, 3) := by decide +kernel
theorem d_SlippedStreamsModel_slice_95 : decode b_SlippedStreamsModel_slice 95 = .ok (.aload_n 0, 1) := by decide +kernel
theorem d_SlippedStreamsModel_slice_96 : decode b_SlippedStreamsModel_slice 96 = .ok (.getfield 22, 3) := by decide +kernel
theorem d_SlippedStreamsModel_slice_99 : decode b_SlippedStreamsModel_slice 99 = .ok (.aload_n 0, 1) := by decide +kernel
theorem d_SlippedStreamsModel_slice_100 : decode b_SlippedStreamsModel_slice 100 = .ok (.getfield 16, 3) := by decide +kernel
theorem d_SlippedStreamsModel_slice_103 : decode b_SlippedStreamsModel_slice 103 = .ok (.iload_n 2, 1) := by decide +kernel
theorem d_SlippedStreamsModel_slice_104 : decode b_SlippedStreamsModel_slice 104 = .ok (.iaload, 1) := by decide +kernel
theorem d_SlippedStreamsModel_slice_105 : decode b_SlippedStreamsModel_slice 105 = .ok (.iconst 1, 1) := by decide +kernel
theorem d_SlippedStreamsModel_slice_106 : decode b_SlippedStreamsModel_slice 106 = .ok (.bastore, 1) := by decide +kernel
theorem d_SlippedStreamsModel_slice_107 : decode b_SlippedStreamsModel_slice 107 = .ok (.iload_n 3, 1) := by decide +kernel
theorem d_SlippedStreamsModel_slice_108 : decode b_SlippedStreamsModel_slice 108 = .ok (.ifCond .eq 15, 3) := by decide +kernel
theorem d_SlippedStreamsModel_slice_111 : decode b_SlippedStreamsModel_slice 111 = .ok (.aload_n 0, 1) := by decide +kernel
theorem d_SlippedStreamsModel_slice_112 : decode b_SlippedStreamsModel_slice 112 = .ok (.getfield 22, 3) := by decide +kernel
theorem d_SlippedStreamsModel_slice_115 : decode b_SlippedStreamsModel_slice 115 = .ok (.aload_n 0, 1) := by decide +kernel
theorem d_SlippedStreamsModel_slice_116 : decode b_SlippedStreamsModel_slice 116 = .ok (.getfield 19, 3) := by decide +kernel
theorem d_SlippedStreamsModel_slice_119 : decode b_SlippedStreamsModel_slice 119 = .ok (.iload_n 2, 1) := by decide +kernel
theorem d_SlippedStreamsModel_slice_120 : decode b_SlippedStreamsModel_slice 120 = .ok (.iaload, 1) := by decide +kernel
theorem d_SlippedStreamsModel_slice_121 : decode b_SlippedStreamsModel_slice 121 = .ok (.iconst 1, 1) := by decide +kernel
theorem d_SlippedStreamsModel_slice_122 : decode b_SlippedStreamsModel_slice 122 = .ok (.bastore, 1) := by decide +kernel
theorem d_SlippedStreamsModel_slice_123 : decode b_SlippedStreamsModel_slice 123 = .ok (.iinc 2 1, 3) := by decide +kernel
theorem d_SlippedStreamsModel_slice_126 : decode b_SlippedStreamsModel_slice 126 = .ok (.goto (-95), 3) := by decide +kernel
theorem d_SlippedStreamsModel_slice_129 : decode b_SlippedStreamsModel_slice 129 = .ok (.iinc 1 1, 3) := by decide +kernel
theorem d_SlippedStreamsModel_slice_132 : decode b_SlippedStreamsModel_slice 132 = .ok (.goto (-109), 3) := by decide +kernel
theorem d_SlippedStreamsModel_slice_135 : decode b_SlippedStreamsModel_slice 135 = .ok (.return_, 1) := by decide +kernel
theorem d_SlippedStreamsModel_isBranch_0 : decode b_SlippedStreamsModel_isBranch 0 = .ok (.aload_n 0, 1) := by decide +kernel
theorem d_SlippedStreamsModel_isBranch_1 : decode b_SlippedStreamsModel_isBranch 1 = .ok (.getfield 7, 3) := by decide +kernel
theorem d_SlippedStreamsModel_isBranch_4 : decode b_SlippedStreamsModel_isBranch 4 = .ok (.iload_n 1, 1) := by decide +kernel
theorem d_SlippedStreamsModel_isBranch_5 : decode b_SlippedStreamsModel_isBranch 5 = .ok (.iaload, 1) := by decide +kernel
theorem d_SlippedStreamsModel_isBranch_6 : decode b_SlippedStreamsModel_isBranch 6 = .ok (.bipush 6, 2) := by decide +kernel
theorem d_SlippedStreamsModel_isBranch_8 : decode b_SlippedStreamsModel_isBranch 8 = .ok (.if_icmp .eq 14, 3) := by decide +kernel
theorem d_SlippedStreamsModel_isBranch_11 : decode b_SlippedStreamsModel_isBranch 11 = .ok (.aload_n 0, 1) := by decide +kernel
theorem d_SlippedStreamsModel_isBranch_12 : decode b_SlippedStreamsModel_isBranch 12 = .ok (.getfield 7, 3) := by decide +kernel
theorem d_SlippedStreamsModel_isBranch_15 : decode b_SlippedStreamsModel_isBranch 15 = .ok (.iload_n 1, 1) := by decide +kernel
theorem d_SlippedStreamsModel_isBranch_16 : decode b_SlippedStreamsModel_isBranch 16 = .ok (.iaload, 1) := by decide +kernel
theorem d_SlippedStreamsModel_isBranch_17 : decode b_SlippedStreamsModel_isBranch 17 = .ok (.bipush 7, 2) := by decide +kernel
theorem d_SlippedStreamsModel_isBranch_19 : decode b_SlippedStreamsModel_isBranch 19 = .ok (.if_icmp .ne 7, 3) := by decide +kernel
theorem d_SlippedStreamsModel_isBranch_22 : decode b_SlippedStreamsModel_isBranch 22 = .ok (.iconst 1, 1) := by decide +kernel
theorem d_SlippedStreamsModel_isBranch_23 : decode b_SlippedStreamsModel_isBranch 23 = .ok (.goto 4, 3) := by decide +kernel
theorem d_SlippedStreamsModel_isBranch_26 : decode b_SlippedStreamsModel_isBranch 26 = .ok (.iconst 0, 1) := by decide +kernel
theorem d_SlippedStreamsModel_isBranch_27 : decode b_SlippedStreamsModel_isBranch 27 = .ok (.ireturn, 1) := by decide +kernel
theorem d_SlippedStreamsModel_belongs_0 : decode b_SlippedStreamsModel_belongs 0 = .ok (.aload_n 0, 1) := by decide +kernel
theorem d_SlippedStreamsModel_belongs_1 : decode b_SlippedStreamsModel_belongs 1 = .ok (.getfield 7, 3) := by decide +kernel
theorem d_SlippedStreamsModel_belongs_4 : decode b_SlippedStreamsModel_belongs 4 = .ok (.iload_n 1, 1) := by decide +kernel
theorem d_SlippedStreamsModel_belongs_5 : decode b_SlippedStreamsModel_belongs 5 = .ok (.iaload, 1) := by decide +kernel
theorem d_SlippedStreamsModel_belongs_6 : decode b_SlippedStreamsModel_belongs 6 = .ok (.istore_n 2, 1) := by decide +kernel
theorem d_SlippedStreamsModel_belongs_7 : decode b_SlippedStreamsModel_belongs 7 = .ok (.iload_n 2, 1) := by decide +kernel
theorem d_SlippedStreamsModel_belongs_8 : decode b_SlippedStreamsModel_belongs 8 = .ok (.iconst 5, 1) := by decide +kernel
theorem d_SlippedStreamsModel_belongs_9 : decode b_SlippedStreamsModel_belongs 9 = .ok (.if_icmp .ne 5, 3) := by decide +kernel
theorem d_SlippedStreamsModel_belongs_12 : decode b_SlippedStreamsModel_belongs 12 = .ok (.iconst 0, 1) := by decide +kernel
theorem d_SlippedStreamsModel_belongs_13 : decode b_SlippedStreamsModel_belongs 13 = .ok (.ireturn, 1) := by decide +kernel
theorem d_SlippedStreamsModel_belongs_14 : decode b_SlippedStreamsModel_belongs 14 = .ok (.iload_n 2, 1) := by decide +kernel
theorem d_SlippedStreamsModel_belongs_15 : decode b_SlippedStreamsModel_belongs 15 = .ok (.bipush 6, 2) := by decide +kernel
theorem d_SlippedStreamsModel_belongs_17 : decode b_SlippedStreamsModel_belongs 17 = .ok (.if_icmp .eq 9, 3) := by decide +kernel
theorem d_SlippedStreamsModel_belongs_20 : decode b_SlippedStreamsModel_belongs 20 = .ok (.iload_n 2, 1) := by decide +kernel
theorem d_SlippedStreamsModel_belongs_21 : decode b_SlippedStreamsModel_belongs 21 = .ok (.bipush 7, 2) := by decide +kernel
theorem d_SlippedStreamsModel_belongs_23 : decode b_SlippedStreamsModel_belongs 23 = .ok (.if_icmp .ne 37, 3) := by decide +kernel
theorem d_SlippedStreamsModel_belongs_26 : decode b_SlippedStreamsModel_belongs 26 = .ok (.aload_n 0, 1) := by decide +kernel
theorem d_SlippedStreamsModel_belongs_27 : decode b_SlippedStreamsModel_belongs 27 = .ok (.getfield 22, 3) := by decide +kernel
theorem d_SlippedStreamsModel_belongs_30 : decode b_SlippedStreamsModel_belongs 30 = .ok (.aload_n 0, 1) := by decide +kernel
theorem d_SlippedStreamsModel_belongs_31 : decode b_SlippedStreamsModel_belongs 31 = .ok (.getfield 13, 3) := by decide +kernel
theorem d_SlippedStreamsModel_belongs_34 : decode b_SlippedStreamsModel_belongs 34 = .ok (.iload_n 1, 1) := by decide +kernel
theorem d_SlippedStreamsModel_belongs_35 : decode b_SlippedStreamsModel_belongs 35 = .ok (.iaload, 1) := by decide +kernel
theorem d_SlippedStreamsModel_belongs_36 : decode b_SlippedStreamsModel_belongs 36 = .ok (.baload, 1) := by decide +kernel
theorem d_SlippedStreamsModel_belongs_37 : decode b_SlippedStreamsModel_belongs 37 = .ok (.ifCond .eq 21, 3) := by decide +kernel
theorem d_SlippedStreamsModel_belongs_40 : decode b_SlippedStreamsModel_belongs 40 = .ok (.aload_n 0, 1) := by decide +kernel
theorem d_SlippedStreamsModel_belongs_41 : decode b_SlippedStreamsModel_belongs 41 = .ok (.getfield 22, 3) := by decide +kernel
theorem d_SlippedStreamsModel_belongs_44 : decode b_SlippedStreamsModel_belongs 44 = .ok (.aload_n 0, 1) := by decide +kernel
theorem d_SlippedStreamsModel_belongs_45 : decode b_SlippedStreamsModel_belongs 45 = .ok (.getfield 16, 3) := by decide +kernel
theorem d_SlippedStreamsModel_belongs_48 : decode b_SlippedStreamsModel_belongs 48 = .ok (.iload_n 1, 1) := by decide +kernel
theorem d_SlippedStreamsModel_belongs_49 : decode b_SlippedStreamsModel_belongs 49 = .ok (.iaload, 1) := by decide +kernel
theorem d_SlippedStreamsModel_belongs_50 : decode b_SlippedStreamsModel_belongs 50 = .ok (.baload, 1) := by decide +kernel
theorem d_SlippedStreamsModel_belongs_51 : decode b_SlippedStreamsModel_belongs 51 = .ok (.ifCond .eq 7, 3) := by decide +kernel
theorem d_SlippedStreamsModel_belongs_54 : decode b_SlippedStreamsModel_belongs 54 = .ok (.iconst 0, 1) := by decide +kernel
theorem d_SlippedStreamsModel_belongs_55 : decode b_SlippedStreamsModel_belongs 55 = .ok (.goto 4, 3) := by decide +kernel
theorem d_SlippedStreamsModel_belongs_58 : decode b_SlippedStreamsModel_belongs 58 = .ok (.iconst 1, 1) := by decide +kernel
theorem d_SlippedStreamsModel_belongs_59 : decode b_SlippedStreamsModel_belongs 59 = .ok (.ireturn, 1) := by decide +kernel
theorem d_SlippedStreamsModel_belongs_60 : decode b_SlippedStreamsModel_belongs 60 = .ok (.iload_n 2, 1) := by decide +kernel
theorem d_SlippedStreamsModel_belongs_61 : decode b_SlippedStreamsModel_belongs 61 = .ok (.bipush 8, 2) := by decide +kernel
theorem d_SlippedStreamsModel_belongs_63 : decode b_SlippedStreamsModel_belongs 63 = .ok (.if_icmp .eq 21, 3) := by decide +kernel
theorem d_SlippedStreamsModel_belongs_66 : decode b_SlippedStreamsModel_belongs 66 = .ok (.aload_n 0, 1) := by decide +kernel
theorem d_SlippedStreamsModel_belongs_67 : decode b_SlippedStreamsModel_belongs 67 = .ok (.getfield 22, 3) := by decide +kernel
theorem d_SlippedStreamsModel_belongs_70 : decode b_SlippedStreamsModel_belongs 70 = .ok (.aload_n 0, 1) := by decide +kernel
theorem d_SlippedStreamsModel_belongs_71 : decode b_SlippedStreamsModel_belongs 71 = .ok (.getfield 13, 3) := by decide +kernel
theorem d_SlippedStreamsModel_belongs_74 : decode b_SlippedStreamsModel_belongs 74 = .ok (.iload_n 1, 1) := by decide +kernel
theorem d_SlippedStreamsModel_belongs_75 : decode b_SlippedStreamsModel_belongs 75 = .ok (.iaload, 1) := by decide +kernel
theorem d_SlippedStreamsModel_belongs_76 : decode b_SlippedStreamsModel_belongs 76 = .ok (.baload, 1) := by decide +kernel
theorem d_SlippedStreamsModel_belongs_77 : decode b_SlippedStreamsModel_belongs 77 = .ok (.ifCond .eq 7, 3) := by decide +kernel
theorem d_SlippedStreamsModel_belongs_80 : decode b_SlippedStreamsModel_belongs 80 = .ok (.iconst 0, 1) := by decide +kernel
theorem d_SlippedStreamsModel_belongs_81 : decode b_SlippedStreamsModel_belongs 81 = .ok (.goto 4, 3) := by decide +kernel
theorem d_SlippedStreamsModel_belongs_84 : decode b_SlippedStreamsModel_belongs 84 = .ok (.iconst 1, 1) := by decide +kernel
theorem d_SlippedStreamsModel_belongs_85 : decode b_SlippedStreamsModel_belongs 85 = .ok (.ireturn, 1) := by decide +kernel
theorem d_SlippedStreamsModel_reads_0 : decode b_SlippedStreamsModel_reads 0 = .ok (.aload_n 0, 1) := by decide +kernel
theorem d_SlippedStreamsModel_reads_1 : decode b_SlippedStreamsModel_reads 1 = .ok (.getfield 7, 3) := by decide +kernel
theorem d_SlippedStreamsModel_reads_4 : decode b_SlippedStreamsModel_reads 4 = .ok (.iload_n 1, 1) := by decide +kernel
theorem d_SlippedStreamsModel_reads_5 : decode b_SlippedStreamsModel_reads 5 = .ok (.iaload, 1) := by decide +kernel
theorem d_SlippedStreamsModel_reads_6 : decode b_SlippedStreamsModel_reads 6 = .ok (.istore_n 3, 1) := by decide +kernel
theorem d_SlippedStreamsModel_reads_7 : decode b_SlippedStreamsModel_reads 7 = .ok (.iload_n 3, 1) := by decide +kernel
theorem d_SlippedStreamsModel_reads_8 : decode b_SlippedStreamsModel_reads 8 = .ok (.invokestatic 105, 3) := by decide +kernel
theorem d_SlippedStreamsModel_reads_11 : decode b_SlippedStreamsModel_reads 11 = .ok (.ifCond .eq 23, 3) := by decide +kernel
theorem d_SlippedStreamsModel_reads_14 : decode b_SlippedStreamsModel_reads 14 = .ok (.iload_n 2, 1) := by decide +kernel
theorem d_SlippedStreamsModel_reads_15 : decode b_SlippedStreamsModel_reads 15 = .ok (.ifCond .ne 12, 3) := by decide +kernel
theorem d_SlippedStreamsModel_reads_18 : decode b_SlippedStreamsModel_reads 18 = .ok (.aload_n 0, 1) := by decide +kernel
theorem d_SlippedStreamsModel_reads_19 : decode b_SlippedStreamsModel_reads 19 = .ok (.getfield 16, 3) := by decide +kernel
theorem d_SlippedStreamsModel_reads_22 : decode b_SlippedStreamsModel_reads 22 = .ok (.iload_n 1, 1) := by decide +kernel
theorem d_SlippedStreamsModel_reads_23 : decode b_SlippedStreamsModel_reads 23 = .ok (.iaload, 1) := by decide +kernel
theorem d_SlippedStreamsModel_reads_24 : decode b_SlippedStreamsModel_reads 24 = .ok (.goto 9, 3) := by decide +kernel
theorem d_SlippedStreamsModel_reads_27 : decode b_SlippedStreamsModel_reads 27 = .ok (.aload_n 0, 1) := by decide +kernel
theorem d_SlippedStreamsModel_reads_28 : decode b_SlippedStreamsModel_reads 28 = .ok (.getfield 19, 3) := by decide +kernel
theorem d_SlippedStreamsModel_reads_31 : decode b_SlippedStreamsModel_reads 31 = .ok (.iload_n 1, 1) := by decide +kernel
theorem d_SlippedStreamsModel_reads_32 : decode b_SlippedStreamsModel_reads 32 = .ok (.iaload, 1) := by decide +kernel
theorem d_SlippedStreamsModel_reads_33 : decode b_SlippedStreamsModel_reads 33 = .ok (.ireturn, 1) := by decide +kernel
theorem d_SlippedStreamsModel_reads_34 : decode b_SlippedStreamsModel_reads 34 = .ok (.iload_n 3, 1) := by decide +kernel
theorem d_SlippedStreamsModel_reads_35 : decode b_SlippedStreamsModel_reads 35 = .ok (.bipush 6, 2) := by decide +kernel
theorem d_SlippedStreamsModel_reads_37 : decode b_SlippedStreamsModel_reads 37 = .ok (.if_icmp .eq 9, 3) := by decide +kernel
theorem d_SlippedStreamsModel_reads_40 : decode b_SlippedStreamsModel_reads 40 = .ok (.iload_n 3, 1) := by decide +kernel
theorem d_SlippedStreamsModel_reads_41 : decode b_SlippedStreamsModel_reads 41 = .ok (.bipush 7, 2) := by decide +kernel
theorem d_SlippedStreamsModel_reads_43 : decode b_SlippedStreamsModel_reads 43 = .ok (.if_icmp .ne 23, 3) := by decide +kernel
theorem d_SlippedStreamsModel_reads_46 : decode b_SlippedStreamsModel_reads 46 = .ok (.iload_n 2, 1) := by decide +kernel
theorem d_SlippedStreamsModel_reads_47 : decode b_SlippedStreamsModel_reads 47 = .ok (.ifCond .ne 12, 3) := by decide +kernel
theorem d_SlippedStreamsModel_reads_50 : decode b_SlippedStreamsModel_reads 50 = .ok (.aload_n 0, 1) := by decide +kernel
theorem d_SlippedStreamsModel_reads_51 : decode b_SlippedStreamsModel_reads 51 = .ok (.getfield 13, 3) := by decide +kernel
theorem d_SlippedStreamsModel_reads_54 : decode b_SlippedStreamsModel_reads 54 = .ok (.iload_n 1, 1) := by decide +kernel
theorem d_SlippedStreamsModel_reads_55 : decode b_SlippedStreamsModel_reads 55 = .ok (.iaload, 1) := by decide +kernel
theorem d_SlippedStreamsModel_reads_56 : decode b_SlippedStreamsModel_reads 56 = .ok (.goto 9, 3) := by decide +kernel
theorem d_SlippedStreamsModel_reads_59 : decode b_SlippedStreamsModel_reads 59 = .ok (.aload_n 0, 1) := by decide +kernel
theorem d_SlippedStreamsModel_reads_60 : decode b_SlippedStreamsModel_reads 60 = .ok (.getfield 16, 3) := by decide +kernel
theorem d_SlippedStreamsModel_reads_63 : decode b_SlippedStreamsModel_reads 63 = .ok (.iload_n 1, 1) := by decide +kernel
theorem d_SlippedStreamsModel_reads_64 : decode b_SlippedStreamsModel_reads 64 = .ok (.iaload, 1) := by decide +kernel
theorem d_SlippedStreamsModel_reads_65 : decode b_SlippedStreamsModel_reads 65 = .ok (.ireturn, 1) := by decide +kernel
theorem d_SlippedStreamsModel_reads_66 : decode b_SlippedStreamsModel_reads 66 = .ok (.iload_n 3, 1) := by decide +kernel
theorem d_SlippedStreamsModel_reads_67 : decode b_SlippedStreamsModel_reads 67 = .ok (.bipush 8, 2) := by decide +kernel
theorem d_SlippedStreamsModel_reads_69 : decode b_SlippedStreamsModel_reads 69 = .ok (.if_icmp .ne 16, 3) := by decide +kernel
theorem d_SlippedStreamsModel_reads_72 : decode b_SlippedStreamsModel_reads 72 = .ok (.iload_n 2, 1) := by decide +kernel
theorem d_SlippedStreamsModel_reads_73 : decode b_SlippedStreamsModel_reads 73 = .ok (.ifCond .ne 12, 3) := by decide +kernel
theorem d_SlippedStreamsModel_reads_76 : decode b_SlippedStreamsModel_reads 76 = .ok (.aload_n 0, 1) := by decide +kernel
theorem d_SlippedStreamsModel_reads_77 : decode b_SlippedStreamsModel_reads 77 = .ok (.getfield 13, 3) := by decide +kernel
theorem d_SlippedStreamsModel_reads_80 : decode b_SlippedStreamsModel_reads 80 = .ok (.iload_n 1, 1) := by decide +kernel
theorem d_SlippedStreamsModel_reads_81 : decode b_SlippedStreamsModel_reads 81 = .ok (.iaload, 1) := by decide +kernel
theorem d_SlippedStreamsModel_reads_82 : decode b_SlippedStreamsModel_reads 82 = .ok (.goto 4, 3) := by decide +kernel
theorem d_SlippedStreamsModel_reads_85 : decode b_SlippedStreamsModel_reads 85 = .ok (.iconst (-1), 1) := by decide +kernel
theorem d_SlippedStreamsModel_reads_86 : decode b_SlippedStreamsModel_reads 86 = .ok (.ireturn, 1) := by decide +kernel
theorem d_SlippedStreamsModel_handed_0 : decode b_SlippedStreamsModel_handed 0 = .ok (.aload_n 0, 1) := by decide +kernel
theorem d_SlippedStreamsModel_handed_1 : decode b_SlippedStreamsModel_handed 1 = .ok (.iload_n 1, 1) := by decide +kernel
theorem d_SlippedStreamsModel_handed_2 : decode b_SlippedStreamsModel_handed 2 = .ok (.iconst 0, 1) := by decide +kernel
theorem d_SlippedStreamsModel_handed_3 : decode b_SlippedStreamsModel_handed 3 = .ok (.invokevirtual 108, 3) := by decide +kernel
theorem d_SlippedStreamsModel_handed_6 : decode b_SlippedStreamsModel_handed 6 = .ok (.istore_n 3, 1) := by decide +kernel
theorem d_SlippedStreamsModel_handed_7 : decode b_SlippedStreamsModel_handed 7 = .ok (.aload_n 0, 1) := by decide +kernel
theorem d_SlippedStreamsModel_handed_8 : decode b_SlippedStreamsModel_handed 8 = .ok (.iload_n 1, 1) := by decide +kernel
theorem d_SlippedStreamsModel_handed_9 : decode b_SlippedStreamsModel_handed 9 = .ok (.iconst 1, 1) := by decide +kernel
theorem d_SlippedStreamsModel_handed_10 : decode b_SlippedStreamsModel_handed 10 = .ok (.invokevirtual 108, 3) := by decide +kernel
theorem d_SlippedStreamsModel_handed_13 : decode b_SlippedStreamsModel_handed 13 = .ok (.istore 4, 2) := by decide +kernel
theorem d_SlippedStreamsModel_handed_15 : decode b_SlippedStreamsModel_handed 15 = .ok (.iload_n 3, 1) := by decide +kernel
theorem d_SlippedStreamsModel_handed_16 : decode b_SlippedStreamsModel_handed 16 = .ok (.ifCond .lt 16, 3) := by decide +kernel
theorem d_SlippedStreamsModel_handed_19 : decode b_SlippedStreamsModel_handed 19 = .ok (.aload_n 0, 1) := by decide +kernel
theorem d_SlippedStreamsModel_handed_20 : decode b_SlippedStreamsModel_handed 20 = .ok (.getfield 22, 3) := by decide +kernel
theorem d_SlippedStreamsModel_handed_23 : decode b_SlippedStreamsModel_handed 23 = .ok (.iload_n 3, 1) := by decide +kernel
theorem d_SlippedStreamsModel_handed_24 : decode b_SlippedStreamsModel_handed 24 = .ok (.baload, 1) := by decide +kernel
theorem d_SlippedStreamsModel_handed_25 : decode b_SlippedStreamsModel_handed 25 = .ok (.ifCond .eq 7, 3) := by decide +kernel
theorem d_SlippedStreamsModel_handed_28 : decode b_SlippedStreamsModel_handed 28 = .ok (.iconst 1, 1) := by decide +kernel
theorem d_SlippedStreamsModel_handed_29 : decode b_SlippedStreamsModel_handed 29 = .ok (.goto 4, 3) := by decide +kernel
theorem d_SlippedStreamsModel_handed_32 : decode b_SlippedStreamsModel_handed 32 = .ok (.iconst 0, 1) := by decide +kernel
theorem d_SlippedStreamsModel_handed_33 : decode b_SlippedStreamsModel_handed 33 = .ok (.istore 5, 2) := by decide +kernel
theorem d_SlippedStreamsModel_handed_35 : decode b_SlippedStreamsModel_handed 35 = .ok (.iload 4, 2) := by decide +kernel
theorem d_SlippedStreamsModel_handed_37 : decode b_SlippedStreamsModel_handed 37 = .ok (.ifCond .lt 28, 3) := by decide +kernel
theorem d_SlippedStreamsModel_handed_40 : decode b_SlippedStreamsModel_handed 40 = .ok (.aload_n 0, 1) := by decide +kernel
theorem d_SlippedStreamsModel_handed_41 : decode b_SlippedStreamsModel_handed 41 = .ok (.getfield 22, 3) := by decide +kernel
theorem d_SlippedStreamsModel_handed_44 : decode b_SlippedStreamsModel_handed 44 = .ok (.iload 4, 2) := by decide +kernel
theorem d_SlippedStreamsModel_handed_46 : decode b_SlippedStreamsModel_handed 46 = .ok (.baload, 1) := by decide +kernel
theorem d_SlippedStreamsModel_handed_47 : decode b_SlippedStreamsModel_handed 47 = .ok (.ifCond .eq 18, 3) := by decide +kernel
theorem d_SlippedStreamsModel_handed_50 : decode b_SlippedStreamsModel_handed 50 = .ok (.iload 5, 2) := by decide +kernel
theorem d_SlippedStreamsModel_handed_52 : decode b_SlippedStreamsModel_handed 52 = .ok (.ifCond .eq 9, 3) := by decide +kernel
theorem d_SlippedStreamsModel_handed_55 : decode b_SlippedStreamsModel_handed 55 = .ok (.iload 4, 2) := by decide +kernel
theorem d_SlippedStreamsModel_handed_57 : decode b_SlippedStreamsModel_handed 57 = .ok (.iload_n 3, 1) := by decide +kernel
theorem d_SlippedStreamsModel_handed_58 : decode b_SlippedStreamsModel_handed 58 = .ok (.if_icmp .eq 7, 3) := by decide +kernel
theorem d_SlippedStreamsModel_handed_61 : decode b_SlippedStreamsModel_handed 61 = .ok (.iconst 1, 1) := by decide +kernel
theorem d_SlippedStreamsModel_handed_62 : decode b_SlippedStreamsModel_handed 62 = .ok (.goto 4, 3) := by decide +kernel
theorem d_SlippedStreamsModel_handed_65 : decode b_SlippedStreamsModel_handed 65 = .ok (.iconst 0, 1) := by decide +kernel
theorem d_SlippedStreamsModel_handed_66 : decode b_SlippedStreamsModel_handed 66 = .ok (.istore 6, 2) := by decide +kernel
theorem d_SlippedStreamsModel_handed_68 : decode b_SlippedStreamsModel_handed 68 = .ok (.iload_n 2, 1) := by decide +kernel
theorem d_SlippedStreamsModel_handed_69 : decode b_SlippedStreamsModel_handed 69 = .ok (.ifCond .ne 26, 3) := by decide +kernel
theorem d_SlippedStreamsModel_handed_72 : decode b_SlippedStreamsModel_handed 72 = .ok (.iload 5, 2) := by decide +kernel
theorem d_SlippedStreamsModel_handed_74 : decode b_SlippedStreamsModel_handed 74 = .ok (.ifCond .eq 7, 3) := by decide +kernel
theorem d_SlippedStreamsModel_handed_77 : decode b_SlippedStreamsModel_handed 77 = .ok (.iload_n 3, 1) := by decide +kernel
theorem d_SlippedStreamsModel_handed_78 : decode b_SlippedStreamsModel_handed 78 = .ok (.goto 33, 3) := by decide +kernel
theorem d_SlippedStreamsModel_handed_81 : decode b_SlippedStreamsModel_handed 81 = .ok (.iload 6, 2) := by decide +kernel
theorem d_SlippedStreamsModel_handed_83 : decode b_SlippedStreamsModel_handed 83 = .ok (.ifCond .eq 8, 3) := by decide +kernel
theorem d_SlippedStreamsModel_handed_86 : decode b_SlippedStreamsModel_handed 86 = .ok (.iload 4, 2) := by decide +kernel
theorem d_SlippedStreamsModel_handed_88 : decode b_SlippedStreamsModel_handed 88 = .ok (.goto 23, 3) := by decide +kernel
theorem d_SlippedStreamsModel_handed_91 : decode b_SlippedStreamsModel_handed 91 = .ok (.iconst (-1), 1) := by decide +kernel
theorem d_SlippedStreamsModel_handed_92 : decode b_SlippedStreamsModel_handed 92 = .ok (.goto 19, 3) := by decide +kernel
theorem d_SlippedStreamsModel_handed_95 : decode b_SlippedStreamsModel_handed 95 = .ok (.iload 5, 2) := by decide +kernel
theorem d_SlippedStreamsModel_handed_97 : decode b_SlippedStreamsModel_handed 97 = .ok (.ifCond .eq 13, 3) := by decide +kernel
theorem d_SlippedStreamsModel_handed_100 : decode b_SlippedStreamsModel_handed 100 = .ok (.iload 6, 2) := by decide +kernel
theorem d_SlippedStreamsModel_handed_102 : decode b_SlippedStreamsModel_handed 102 = .ok (.ifCond .eq 8, 3) := by decide +kernel
theorem d_SlippedStreamsModel_handed_105 : decode b_SlippedStreamsModel_handed 105 = .ok (.iload 4, 2) := by decide +kernel
theorem d_SlippedStreamsModel_handed_107 : decode b_SlippedStreamsModel_handed 107 = .ok (.goto 4, 3) := by decide +kernel
theorem d_SlippedStreamsModel_handed_110 : decode b_SlippedStreamsModel_handed 110 = .ok (.iconst (-1), 1) := by decide +kernel
theorem d_SlippedStreamsModel_handed_111 : decode b_SlippedStreamsModel_handed 111 = .ok (.ireturn, 1) := by decide +kernel
theorem d_SlippedStreamsModel_howMany_0 : decode b_SlippedStreamsModel_howMany 0 = .ok (.aload_n 0, 1) := by decide +kernel
theorem d_SlippedStreamsModel_howMany_1 : decode b_SlippedStreamsModel_howMany 1 = .ok (.iload_n 1, 1) := by decide +kernel
theorem d_SlippedStreamsModel_howMany_2 : decode b_SlippedStreamsModel_howMany 2 = .ok (.iconst 1, 1) := by decide +kernel
theorem d_SlippedStreamsModel_howMany_3 : decode b_SlippedStreamsModel_howMany 3 = .ok (.invokevirtual 112, 3) := by decide +kernel
theorem d_SlippedStreamsModel_howMany_6 : decode b_SlippedStreamsModel_howMany 6 = .ok (.ifCond .lt 7, 3) := by decide +kernel
theorem d_SlippedStreamsModel_howMany_9 : decode b_SlippedStreamsModel_howMany 9 = .ok (.iconst 2, 1) := by decide +kernel
theorem d_SlippedStreamsModel_howMany_10 : decode b_SlippedStreamsModel_howMany 10 = .ok (.goto 17, 3) := by decide +kernel
theorem d_SlippedStreamsModel_howMany_13 : decode b_SlippedStreamsModel_howMany 13 = .ok (.aload_n 0, 1) := by decide +kernel
theorem d_SlippedStreamsModel_howMany_14 : decode b_SlippedStreamsModel_howMany 14 = .ok (.iload_n 1, 1) := by decide +kernel
theorem d_SlippedStreamsModel_howMany_15 : decode b_SlippedStreamsModel_howMany 15 = .ok (.iconst 0, 1) := by decide +kernel
theorem d_SlippedStreamsModel_howMany_16 : decode b_SlippedStreamsModel_howMany 16 = .ok (.invokevirtual 112, 3) := by decide +kernel
theorem d_SlippedStreamsModel_howMany_19 : decode b_SlippedStreamsModel_howMany 19 = .ok (.ifCond .lt 7, 3) := by decide +kernel
theorem d_SlippedStreamsModel_howMany_22 : decode b_SlippedStreamsModel_howMany 22 = .ok (.iconst 1, 1) := by decide +kernel
theorem d_SlippedStreamsModel_howMany_23 : decode b_SlippedStreamsModel_howMany 23 = .ok (.goto 4, 3) := by decide +kernel
theorem d_SlippedStreamsModel_howMany_26 : decode b_SlippedStreamsModel_howMany 26 = .ok (.iconst 0, 1) := by decide +kernel
theorem d_SlippedStreamsModel_howMany_27 : decode b_SlippedStreamsModel_howMany 27 = .ok (.ireturn, 1) := by decide +kernel
theorem d_SlippedStreamsModel_isNothing_0 : decode b_SlippedStreamsModel_isNothing 0 = .ok (.aload_n 0, 1) := by decide +kernel
theorem d_SlippedStreamsModel_isNothing_1 : decode b_SlippedStreamsModel_isNothing 1 = .ok (.getfield 7, 3) := by decide +kernel
theorem d_SlippedStreamsModel_isNothing_4 : decode b_SlippedStreamsModel_isNothing 4 = .ok (.iload_n 2, 1) := by decide +kernel
theorem d_SlippedStreamsModel_isNothing_5 : decode b_SlippedStreamsModel_isNothing 5 = .ok (.iaload, 1) := by decide +kernel
theorem d_SlippedStreamsModel_isNothing_6 : decode b_SlippedStreamsModel_isNothing 6 = .ok (.istore_n 3, 1) := by decide +kernel
theorem d_SlippedStreamsModel_isNothing_7 : decode b_SlippedStreamsModel_isNothing 7 = .ok (.aload_n 0, 1) := by decide +kernel
theorem d_SlippedStreamsModel_isNothing_8 : decode b_SlippedStreamsModel_isNothing 8 = .ok (.iload_n 2, 1) := by decide +kernel
theorem d_SlippedStreamsModel_isNothing_9 : decode b_SlippedStreamsModel_isNothing 9 = .ok (.invokevirtual 115, 3) := by decide +kernel
theorem d_SlippedStreamsModel_isNothing_12 : decode b_SlippedStreamsModel_isNothing 12 = .ok (.ifCond .eq 5, 3) := by decide +kernel
theorem d_SlippedStreamsModel_isNothing_15 : decode b_SlippedStreamsModel_isNothing 15 = .ok (.iconst 0, 1) := by decide +kernel
theorem d_SlippedStreamsModel_isNothing_16 : decode b_SlippedStreamsModel_isNothing 16 = .ok (.ireturn, 1) := by decide +kernel
theorem d_SlippedStreamsModel_isNothing_17 : decode b_SlippedStreamsModel_isNothing 17 = .ok (.iload_n 1, 1) := by decide +kernel
theorem d_SlippedStreamsModel_isNothing_18 : decode b_SlippedStreamsModel_isNothing 18 = .ok (.ifCond .ne 31, 3) := by decide +kernel
theorem d_SlippedStreamsModel_isNothing_21 : decode b_SlippedStreamsModel_isNothing 21 = .ok (.aload_n 0, 1) := by decide +kernel
theorem d_SlippedStreamsModel_isNothing_22 : decode b_SlippedStreamsModel_isNothing 22 = .ok (.iload_n 2, 1) := by decide +kernel
theorem d_SlippedStreamsModel_isNothing_23 : decode b_SlippedStreamsModel_isNothing 23 = .ok (.invokevirtual 118, 3) := by decide +kernel
theorem d_SlippedStreamsModel_isNothing_26 : decode b_SlippedStreamsModel_isNothing 26 = .ok (.iconst 1, 1) := by decide +kernel
theorem d_SlippedStreamsModel_isNothing_27 : decode b_SlippedStreamsModel_isNothing 27 = .ok (.if_icmp .ne 20, 3) := by decide +kernel
theorem d_SlippedStreamsModel_isNothing_30 : decode b_SlippedStreamsModel_isNothing 30 = .ok (.iload_n 3, 1) := by decide +kernel
theorem d_SlippedStreamsModel_isNothing_31 : decode b_SlippedStreamsModel_isNothing 31 = .ok (.iconst 4, 1) := by decide +kernel
theorem d_SlippedStreamsModel_isNothing_32 : decode b_SlippedStreamsModel_isNothing 32 = .ok (.if_icmp .eq 15, 3) := by decide +kernel
theorem d_SlippedStreamsModel_isNothing_35 : decode b_SlippedStreamsModel_isNothing 35 = .ok (.aload_n 0, 1) := by decide +kernel
theorem d_SlippedStreamsModel_isNothing_36 : decode b_SlippedStreamsModel_isNothing 36 = .ok (.iload_n 2, 1) := by decide +kernel
theorem d_SlippedStreamsModel_isNothing_37 : decode b_SlippedStreamsModel_isNothing 37 = .ok (.invokevirtual 122, 3) := by decide +kernel
theorem d_SlippedStreamsModel_isNothing_40 : decode b_SlippedStreamsModel_isNothing 40 = .ok (.ifCond .ne 7, 3) := by decide +kernel
theorem d_SlippedStreamsModel_isNothing_43 : decode b_SlippedStreamsModel_isNothing 43 = .ok (.iconst 1, 1) := by decide +kernel
theorem d_SlippedStreamsModel_isNothing_44 : decode b_SlippedStreamsModel_isNothing 44 = .ok (.goto 4, 3) := by decide +kernel
theorem d_SlippedStreamsModel_isNothing_47 : decode b_SlippedStreamsModel_isNothing 47 = .ok (.iconst 0, 1) := by decide +kernel
theorem d_SlippedStreamsModel_isNothing_48 : decode b_SlippedStreamsModel_isNothing 48 = .ok (.ireturn, 1) := by decide +kernel
theorem d_SlippedStreamsModel_isNothing_49 : decode b_SlippedStreamsModel_isNothing 49 = .ok (.aload_n 0, 1) := by decide +kernel
theorem d_SlippedStreamsModel_isNothing_50 : decode b_SlippedStreamsModel_isNothing 50 = .ok (.iload_n 2, 1) := by decide +kernel
theorem d_SlippedStreamsModel_isNothing_51 : decode b_SlippedStreamsModel_isNothing 51 = .ok (.invokevirtual 118, 3) := by decide +kernel
theorem d_SlippedStreamsModel_isNothing_54 : decode b_SlippedStreamsModel_isNothing 54 = .ok (.ifCond .ne 26, 3) := by decide +kernel
theorem d_SlippedStreamsModel_isNothing_57 : decode b_SlippedStreamsModel_isNothing 57 = .ok (.iload_n 3, 1) := by decide +kernel
theorem d_SlippedStreamsModel_isNothing_58 : decode b_SlippedStreamsModel_isNothing 58 = .ok (.iconst 5, 1) := by decide +kernel
theorem d_SlippedStreamsModel_isNothing_59 : decode b_SlippedStreamsModel_isNothing 59 = .ok (.if_icmp .ne 17, 3) := by decide +kernel
theorem d_SlippedStreamsModel_isNothing_62 : decode b_SlippedStreamsModel_isNothing 62 = .ok (.aload_n 0, 1) := by decide +kernel
theorem d_SlippedStreamsModel_isNothing_63 : decode b_SlippedStreamsModel_isNothing 63 = .ok (.getfield 22, 3) := by decide +kernel
theorem d_SlippedStreamsModel_isNothing_66 : decode b_SlippedStreamsModel_isNothing 66 = .ok (.aload_n 0, 1) := by decide +kernel
theorem d_SlippedStreamsModel_isNothing_67 : decode b_SlippedStreamsModel_isNothing 67 = .ok (.getfield 13, 3) := by decide +kernel
theorem d_SlippedStreamsModel_isNothing_70 : decode b_SlippedStreamsModel_isNothing 70 = .ok (.iload_n 2, 1) := by decide +kernel
theorem d_SlippedStreamsModel_isNothing_71 : decode b_SlippedStreamsModel_isNothing 71 = .ok (.iaload, 1) := by decide +kernel
theorem d_SlippedStreamsModel_isNothing_72 : decode b_SlippedStreamsModel_isNothing 72 = .ok (.baload, 1) := by decide +kernel
theorem d_SlippedStreamsModel_isNothing_73 : decode b_SlippedStreamsModel_isNothing 73 = .ok (.ifCond .eq 7, 3) := by decide +kernel
theorem d_SlippedStreamsModel_isNothing_76 : decode b_SlippedStreamsModel_isNothing 76 = .ok (.iconst 1, 1) := by decide +kernel
theorem d_SlippedStreamsModel_isNothing_77 : decode b_SlippedStreamsModel_isNothing 77 = .ok (.goto 4, 3) := by decide +kernel
theorem d_SlippedStreamsModel_isNothing_80 : decode b_SlippedStreamsModel_isNothing 80 = .ok (.iconst 0, 1) := by decide +kernel
theorem d_SlippedStreamsModel_isNothing_81 : decode b_SlippedStreamsModel_isNothing 81 = .ok (.ireturn, 1) := by decide +kernel
theorem d_SlippedStreamsModel_goOver_0 : decode b_SlippedStreamsModel_goOver 0 = .ok (.aload_n 0, 1) := by decide +kernel
theorem d_SlippedStreamsModel_goOver_1 : decode b_SlippedStreamsModel_goOver 1 = .ok (.getfield 29, 3) := by decide +kernel
theorem d_SlippedStreamsModel_goOver_4 : decode b_SlippedStreamsModel_goOver 4 = .ok (.iload_n 1, 1) := by decide +kernel
theorem d_SlippedStreamsModel_goOver_5 : decode b_SlippedStreamsModel_goOver 5 = .ok (.iaload, 1) := by decide +kernel
theorem d_SlippedStreamsModel_goOver_6 : decode b_SlippedStreamsModel_goOver 6 = .ok (.aload_n 0, 1) := by decide +kernel
theorem d_SlippedStreamsModel_goOver_7 : decode b_SlippedStreamsModel_goOver 7 = .ok (.getfield 62, 3) := by decide +kernel
theorem d_SlippedStreamsModel_goOver_10 : decode b_SlippedStreamsModel_goOver 10 = .ok (.if_icmp .ge 48, 3) := by decide +kernel
theorem d_SlippedStreamsModel_goOver_13 : decode b_SlippedStreamsModel_goOver 13 = .ok (.aload_n 0, 1) := by decide +kernel
theorem d_SlippedStreamsModel_goOver_14 : decode b_SlippedStreamsModel_goOver 14 = .ok (.iload_n 1, 1) := by decide +kernel
theorem d_SlippedStreamsModel_goOver_15 : decode b_SlippedStreamsModel_goOver 15 = .ok (.aload_n 0, 1) := by decide +kernel
theorem d_SlippedStreamsModel_goOver_16 : decode b_SlippedStreamsModel_goOver 16 = .ok (.getfield 29, 3) := by decide +kernel
theorem d_SlippedStreamsModel_goOver_19 : decode b_SlippedStreamsModel_goOver 19 = .ok (.iload_n 1, 1) := by decide +kernel
theorem d_SlippedStreamsModel_goOver_20 : decode b_SlippedStreamsModel_goOver 20 = .ok (.iaload, 1) := by decide +kernel
theorem d_SlippedStreamsModel_goOver_21 : decode b_SlippedStreamsModel_goOver 21 = .ok (.invokevirtual 125, 3) := by decide +kernel
theorem d_SlippedStreamsModel_goOver_24 : decode b_SlippedStreamsModel_goOver 24 = .ok (.ifCond .eq 34, 3) := by decide +kernel
theorem d_SlippedStreamsModel_goOver_27 : decode b_SlippedStreamsModel_goOver 27 = .ok (.aload_n 0, 1) := by decide +kernel
theorem d_SlippedStreamsModel_goOver_28 : decode b_SlippedStreamsModel_goOver 28 = .ok (.getfield 29, 3) := by decide +kernel
theorem d_SlippedStreamsModel_goOver_31 : decode b_SlippedStreamsModel_goOver 31 = .ok (.iload_n 1, 1) := by decide +kernel
theorem d_SlippedStreamsModel_goOver_32 : decode b_SlippedStreamsModel_goOver 32 = .ok (.aload_n 0, 1) := by decide +kernel
theorem d_SlippedStreamsModel_goOver_33 : decode b_SlippedStreamsModel_goOver 33 = .ok (.getfield 29, 3) := by decide +kernel
theorem d_SlippedStreamsModel_goOver_36 : decode b_SlippedStreamsModel_goOver 36 = .ok (.iload_n 1, 1) := by decide +kernel
theorem d_SlippedStreamsModel_goOver_37 : decode b_SlippedStreamsModel_goOver 37 = .ok (.iaload, 1) := by decide +kernel
theorem d_SlippedStreamsModel_goOver_38 : decode b_SlippedStreamsModel_goOver 38 = .ok (.iconst 1, 1) := by decide +kernel
theorem d_SlippedStreamsModel_goOver_39 : decode b_SlippedStreamsModel_goOver 39 = .ok (.iadd, 1) := by decide +kernel
theorem d_SlippedStreamsModel_goOver_40 : decode b_SlippedStreamsModel_goOver 40 = .ok (.iastore, 1) := by decide +kernel
theorem d_SlippedStreamsModel_goOver_41 : decode b_SlippedStreamsModel_goOver 41 = .ok (.aload_n 0, 1) := by decide +kernel
theorem d_SlippedStreamsModel_goOver_42 : decode b_SlippedStreamsModel_goOver 42 = .ok (.getfield 32, 3) := by decide +kernel
theorem d_SlippedStreamsModel_goOver_45 : decode b_SlippedStreamsModel_goOver 45 = .ok (.iload_n 1, 1) := by decide +kernel
theorem d_SlippedStreamsModel_goOver_46 : decode b_SlippedStreamsModel_goOver 46 = .ok (.aload_n 0, 1) := by decide +kernel
theorem d_SlippedStreamsModel_goOver_47 : decode b_SlippedStreamsModel_goOver 47 = .ok (.getfield 32, 3) := by decide +kernel
theorem d_SlippedStreamsModel_goOver_50 : decode b_SlippedStreamsModel_goOver 50 = .ok (.iload_n 1, 1) := by decide +kernel
theorem d_SlippedStreamsModel_goOver_51 : decode b_SlippedStreamsModel_goOver 51 = .ok (.iaload, 1) := by decide +kernel
theorem d_SlippedStreamsModel_goOver_52 : decode b_SlippedStreamsModel_goOver 52 = .ok (.iconst 1, 1) := by decide +kernel
theorem d_SlippedStreamsModel_goOver_53 : decode b_SlippedStreamsModel_goOver 53 = .ok (.iadd, 1) := by decide +kernel
theorem d_SlippedStreamsModel_goOver_54 : decode b_SlippedStreamsModel_goOver 54 = .ok (.iastore, 1) := by decide +kernel
theorem d_SlippedStreamsModel_goOver_55 : decode b_SlippedStreamsModel_goOver 55 = .ok (.goto (-55), 3) := by decide +kernel
theorem d_SlippedStreamsModel_goOver_58 : decode b_SlippedStreamsModel_goOver 58 = .ok (.return_, 1) := by decide +kernel
theorem d_SlippedStreamsModel_reset_0 : decode b_SlippedStreamsModel_reset 0 = .ok (.iconst 0, 1) := by decide +kernel
theorem d_SlippedStreamsModel_reset_1 : decode b_SlippedStreamsModel_reset 1 = .ok (.istore_n 1, 1) := by decide +kernel
theorem d_SlippedStreamsModel_reset_2 : decode b_SlippedStreamsModel_reset 2 = .ok (.iload_n 1, 1) := by decide +kernel
theorem d_SlippedStreamsModel_reset_3 : decode b_SlippedStreamsModel_reset 3 = .ok (.bipush 16, 2) := by decide +kernel
theorem d_SlippedStreamsModel_reset_5 : decode b_SlippedStreamsModel_reset 5 = .ok (.if_icmp .ge 26, 3) := by decide +kernel
theorem d_SlippedStreamsModel_reset_8 : decode b_SlippedStreamsModel_reset 8 = .ok (.aload_n 0, 1) := by decide +kernel
theorem d_SlippedStreamsModel_reset_9 : decode b_SlippedStreamsModel_reset 9 = .ok (.getfield 26, 3) := by decide +kernel
theorem d_SlippedStreamsModel_reset_12 : decode b_SlippedStreamsModel_reset 12 = .ok (.iload_n 1, 1) := by decide +kernel
theorem d_SlippedStreamsModel_reset_13 : decode b_SlippedStreamsModel_reset 13 = .ok (.iconst 0, 1) := by decide +kernel
theorem d_SlippedStreamsModel_reset_14 : decode b_SlippedStreamsModel_reset 14 = .ok (.iastore, 1) := by decide +kernel
theorem d_SlippedStreamsModel_reset_15 : decode b_SlippedStreamsModel_reset 15 = .ok (.aload_n 0, 1) := by decide +kernel
theorem d_SlippedStreamsModel_reset_16 : decode b_SlippedStreamsModel_reset 16 = .ok (.getfield 53, 3) := by decide +kernel
theorem d_SlippedStreamsModel_reset_19 : decode b_SlippedStreamsModel_reset 19 = .ok (.iload_n 1, 1) := by decide +kernel
theorem d_SlippedStreamsModel_reset_20 : decode b_SlippedStreamsModel_reset 20 = .ok (.bipush 8, 2) := by decide +kernel
theorem d_SlippedStreamsModel_reset_22 : decode b_SlippedStreamsModel_reset 22 = .ok (.irem, 1) := by decide +kernel
theorem d_SlippedStreamsModel_reset_23 : decode b_SlippedStreamsModel_reset 23 = .ok (.iconst 0, 1) := by decide +kernel
theorem d_SlippedStreamsModel_reset_24 : decode b_SlippedStreamsModel_reset 24 = .ok (.iastore, 1) := by decide +kernel
theorem d_SlippedStreamsModel_reset_25 : decode b_SlippedStreamsModel_reset 25 = .ok (.iinc 1 1, 3) := by decide +kernel
theorem d_SlippedStreamsModel_reset_28 : decode b_SlippedStreamsModel_reset 28 = .ok (.goto (-26), 3) := by decide +kernel
theorem d_SlippedStreamsModel_reset_31 : decode b_SlippedStreamsModel_reset 31 = .ok (.iconst 0, 1) := by decide +kernel
theorem d_SlippedStreamsModel_reset_32 : decode b_SlippedStreamsModel_reset 32 = .ok (.istore_n 1, 1) := by decide +kernel
theorem d_SlippedStreamsModel_reset_33 : decode b_SlippedStreamsModel_reset 33 = .ok (.iload_n 1, 1) := by decide +kernel
theorem d_SlippedStreamsModel_reset_34 : decode b_SlippedStreamsModel_reset 34 = .ok (.bipush 32, 2) := by decide +kernel
theorem d_SlippedStreamsModel_reset_36 : decode b_SlippedStreamsModel_reset 36 = .ok (.if_icmp .ge 43, 3) := by decide +kernel
theorem d_SlippedStreamsModel_reset_39 : decode b_SlippedStreamsModel_reset 39 = .ok (.aload_n 0, 1) := by decide +kernel
theorem d_SlippedStreamsModel_reset_40 : decode b_SlippedStreamsModel_reset 40 = .ok (.getfield 35, 3) := by decide +kernel
theorem d_SlippedStreamsModel_reset_43 : decode b_SlippedStreamsModel_reset 43 = .ok (.iload_n 1, 1) := by decide +kernel
theorem d_SlippedStreamsModel_reset_44 : decode b_SlippedStreamsModel_reset 44 = .ok (.aload_n 0, 1) := by decide +kernel
theorem d_SlippedStreamsModel_reset_45 : decode b_SlippedStreamsModel_reset 45 = .ok (.getfield 76, 3) := by decide +kernel
theorem d_SlippedStreamsModel_reset_48 : decode b_SlippedStreamsModel_reset 48 = .ok (.iload_n 1, 1) := by decide +kernel
theorem d_SlippedStreamsModel_reset_49 : decode b_SlippedStreamsModel_reset 49 = .ok (.aload_n 0, 1) := by decide +kernel
theorem d_SlippedStreamsModel_reset_50 : decode b_SlippedStreamsModel_reset 50 = .ok (.getfield 79, 3) := by decide +kernel
theorem d_SlippedStreamsModel_reset_53 : decode b_SlippedStreamsModel_reset 53 = .ok (.imul, 1) := by decide +kernel
theorem d_SlippedStreamsModel_reset_54 : decode b_SlippedStreamsModel_reset 54 = .ok (.iadd, 1) := by decide +kernel
theorem d_SlippedStreamsModel_reset_55 : decode b_SlippedStreamsModel_reset 55 = .ok (.iastore, 1) := by decide +kernel
theorem d_SlippedStreamsModel_reset_56 : decode b_SlippedStreamsModel_reset 56 = .ok (.aload_n 0, 1) := by decide +kernel
theorem d_SlippedStreamsModel_reset_57 : decode b_SlippedStreamsModel_reset 57 = .ok (.getfield 56, 3) := by decide +kernel
theorem d_SlippedStreamsModel_reset_60 : decode b_SlippedStreamsModel_reset 60 = .ok (.iload_n 1, 1) := by decide +kernel
theorem d_SlippedStreamsModel_reset_61 : decode b_SlippedStreamsModel_reset 61 = .ok (.aload_n 0, 1) := by decide +kernel
theorem d_SlippedStreamsModel_reset_62 : decode b_SlippedStreamsModel_reset 62 = .ok (.getfield 76, 3) := by decide +kernel
theorem d_SlippedStreamsModel_reset_65 : decode b_SlippedStreamsModel_reset 65 = .ok (.iload_n 1, 1) := by decide +kernel
theorem d_SlippedStreamsModel_reset_66 : decode b_SlippedStreamsModel_reset 66 = .ok (.aload_n 0, 1) := by decide +kernel
theorem d_SlippedStreamsModel_reset_67 : decode b_SlippedStreamsModel_reset 67 = .ok (.getfield 79, 3) := by decide +kernel
theorem d_SlippedStreamsModel_reset_70 : decode b_SlippedStreamsModel_reset 70 = .ok (.imul, 1) := by decide +kernel
theorem d_SlippedStreamsModel_reset_71 : decode b_SlippedStreamsModel_reset 71 = .ok (.iadd, 1) := by decide +kernel
theorem d_SlippedStreamsModel_reset_72 : decode b_SlippedStreamsModel_reset 72 = .ok (.iastore, 1) := by decide +kernel
theorem d_SlippedStreamsModel_reset_73 : decode b_SlippedStreamsModel_reset 73 = .ok (.iinc 1 1, 3) := by decide +kernel
theorem d_SlippedStreamsModel_reset_76 : decode b_SlippedStreamsModel_reset 76 = .ok (.goto (-43), 3) := by decide +kernel
theorem d_SlippedStreamsModel_reset_79 : decode b_SlippedStreamsModel_reset 79 = .ok (.iconst 0, 1) := by decide +kernel
theorem d_SlippedStreamsModel_reset_80 : decode b_SlippedStreamsModel_reset 80 = .ok (.istore_n 1, 1) := by decide +kernel
