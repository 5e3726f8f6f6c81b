theorem d_SlippedStreamsModel_follow_32 : decode b_SlippedStreamsModel_follow 32 = .ok (.iconst 1, 1) := by decide +kernel
theorem d_SlippedStreamsModel_follow_33 : decode b_SlippedStreamsModel_follow 33 = .ok (.putfield 85, 3) := by decide +kernel
theorem d_SlippedStreamsModel_follow_36 : decode b_SlippedStreamsModel_follow 36 = .ok (.aload_n 0, 1) := by decide +kernel
theorem d_SlippedStreamsModel_follow_37 : decode b_SlippedStreamsModel_follow 37 = .ok (.getfield 85, 3) := by decide +kernel
theorem d_SlippedStreamsModel_follow_40 : decode b_SlippedStreamsModel_follow 40 = .ok (.ireturn, 1) := by decide +kernel
theorem d_SlippedStreamsModel_follow_41 : decode b_SlippedStreamsModel_follow 41 = .ok (.aload_n 0, 1) := by decide +kernel
theorem d_SlippedStreamsModel_follow_42 : decode b_SlippedStreamsModel_follow 42 = .ok (.getfield 41, 3) := by decide +kernel
theorem d_SlippedStreamsModel_follow_45 : decode b_SlippedStreamsModel_follow 45 = .ok (.iconst 3, 1) := by decide +kernel
theorem d_SlippedStreamsModel_follow_46 : decode b_SlippedStreamsModel_follow 46 = .ok (.iaload, 1) := by decide +kernel
theorem d_SlippedStreamsModel_follow_47 : decode b_SlippedStreamsModel_follow 47 = .ok (.ifCond .ne 10, 3) := by decide +kernel
theorem d_SlippedStreamsModel_follow_50 : decode b_SlippedStreamsModel_follow 50 = .ok (.aload_n 0, 1) := by decide +kernel
theorem d_SlippedStreamsModel_follow_51 : decode b_SlippedStreamsModel_follow 51 = .ok (.iconst 1, 1) := by decide +kernel
theorem d_SlippedStreamsModel_follow_52 : decode b_SlippedStreamsModel_follow 52 = .ok (.putfield 151, 3) := by decide +kernel
theorem d_SlippedStreamsModel_follow_55 : decode b_SlippedStreamsModel_follow 55 = .ok (.iconst 0, 1) := by decide +kernel
theorem d_SlippedStreamsModel_follow_56 : decode b_SlippedStreamsModel_follow 56 = .ok (.ireturn, 1) := by decide +kernel
theorem d_SlippedStreamsModel_follow_57 : decode b_SlippedStreamsModel_follow 57 = .ok (.aload_n 0, 1) := by decide +kernel
theorem d_SlippedStreamsModel_follow_58 : decode b_SlippedStreamsModel_follow 58 = .ok (.iconst 0, 1) := by decide +kernel
theorem d_SlippedStreamsModel_follow_59 : decode b_SlippedStreamsModel_follow 59 = .ok (.putfield 85, 3) := by decide +kernel
theorem d_SlippedStreamsModel_follow_62 : decode b_SlippedStreamsModel_follow 62 = .ok (.aload_n 0, 1) := by decide +kernel
theorem d_SlippedStreamsModel_follow_63 : decode b_SlippedStreamsModel_follow 63 = .ok (.iconst 0, 1) := by decide +kernel
theorem d_SlippedStreamsModel_follow_64 : decode b_SlippedStreamsModel_follow 64 = .ok (.aload_n 0, 1) := by decide +kernel
theorem d_SlippedStreamsModel_follow_65 : decode b_SlippedStreamsModel_follow 65 = .ok (.iconst 3, 1) := by decide +kernel
theorem d_SlippedStreamsModel_follow_66 : decode b_SlippedStreamsModel_follow 66 = .ok (.invokevirtual 142, 3) := by decide +kernel
theorem d_SlippedStreamsModel_follow_69 : decode b_SlippedStreamsModel_follow 69 = .ok (.iconst 1, 1) := by decide +kernel
theorem d_SlippedStreamsModel_follow_70 : decode b_SlippedStreamsModel_follow 70 = .ok (.if_icmp .ne 12, 3) := by decide +kernel
theorem d_SlippedStreamsModel_follow_73 : decode b_SlippedStreamsModel_follow 73 = .ok (.aload_n 0, 1) := by decide +kernel
theorem d_SlippedStreamsModel_follow_74 : decode b_SlippedStreamsModel_follow 74 = .ok (.getfield 19, 3) := by decide +kernel
theorem d_SlippedStreamsModel_follow_77 : decode b_SlippedStreamsModel_follow 77 = .ok (.iload_n 1, 1) := by decide +kernel
theorem d_SlippedStreamsModel_follow_78 : decode b_SlippedStreamsModel_follow 78 = .ok (.iaload, 1) := by decide +kernel
theorem d_SlippedStreamsModel_follow_79 : decode b_SlippedStreamsModel_follow 79 = .ok (.goto 6, 3) := by decide +kernel
theorem d_SlippedStreamsModel_follow_82 : decode b_SlippedStreamsModel_follow 82 = .ok (.iload_n 1, 1) := by decide +kernel
theorem d_SlippedStreamsModel_follow_83 : decode b_SlippedStreamsModel_follow 83 = .ok (.iconst 1, 1) := by decide +kernel
theorem d_SlippedStreamsModel_follow_84 : decode b_SlippedStreamsModel_follow 84 = .ok (.iadd, 1) := by decide +kernel
theorem d_SlippedStreamsModel_follow_85 : decode b_SlippedStreamsModel_follow 85 = .ok (.invokevirtual 139, 3) := by decide +kernel
theorem d_SlippedStreamsModel_follow_88 : decode b_SlippedStreamsModel_follow 88 = .ok (.iconst 1, 1) := by decide +kernel
theorem d_SlippedStreamsModel_follow_89 : decode b_SlippedStreamsModel_follow 89 = .ok (.ireturn, 1) := by decide +kernel
theorem d_SlippedStreamsModel_drain_0 : decode b_SlippedStreamsModel_drain 0 = .ok (.aload_n 0, 1) := by decide +kernel
theorem d_SlippedStreamsModel_drain_1 : decode b_SlippedStreamsModel_drain 1 = .ok (.getfield 82, 3) := by decide +kernel
theorem d_SlippedStreamsModel_drain_4 : decode b_SlippedStreamsModel_drain 4 = .ok (.ifCond .le 100, 3) := by decide +kernel
theorem d_SlippedStreamsModel_drain_7 : decode b_SlippedStreamsModel_drain 7 = .ok (.aload_n 0, 1) := by decide +kernel
theorem d_SlippedStreamsModel_drain_8 : decode b_SlippedStreamsModel_drain 8 = .ok (.getfield 50, 3) := by decide +kernel
theorem d_SlippedStreamsModel_drain_11 : decode b_SlippedStreamsModel_drain 11 = .ok (.iconst 0, 1) := by decide +kernel
theorem d_SlippedStreamsModel_drain_12 : decode b_SlippedStreamsModel_drain 12 = .ok (.baload, 1) := by decide +kernel
theorem d_SlippedStreamsModel_drain_13 : decode b_SlippedStreamsModel_drain 13 = .ok (.ifCond .eq 91, 3) := by decide +kernel
theorem d_SlippedStreamsModel_drain_16 : decode b_SlippedStreamsModel_drain 16 = .ok (.aload_n 0, 1) := by decide +kernel
theorem d_SlippedStreamsModel_drain_17 : decode b_SlippedStreamsModel_drain 17 = .ok (.getfield 35, 3) := by decide +kernel
theorem d_SlippedStreamsModel_drain_20 : decode b_SlippedStreamsModel_drain 20 = .ok (.aload_n 0, 1) := by decide +kernel
theorem d_SlippedStreamsModel_drain_21 : decode b_SlippedStreamsModel_drain 21 = .ok (.getfield 44, 3) := by decide +kernel
theorem d_SlippedStreamsModel_drain_24 : decode b_SlippedStreamsModel_drain 24 = .ok (.iconst 0, 1) := by decide +kernel
theorem d_SlippedStreamsModel_drain_25 : decode b_SlippedStreamsModel_drain 25 = .ok (.iaload, 1) := by decide +kernel
theorem d_SlippedStreamsModel_drain_26 : decode b_SlippedStreamsModel_drain 26 = .ok (.aload_n 0, 1) := by decide +kernel
theorem d_SlippedStreamsModel_drain_27 : decode b_SlippedStreamsModel_drain 27 = .ok (.getfield 47, 3) := by decide +kernel
theorem d_SlippedStreamsModel_drain_30 : decode b_SlippedStreamsModel_drain 30 = .ok (.iconst 0, 1) := by decide +kernel
theorem d_SlippedStreamsModel_drain_31 : decode b_SlippedStreamsModel_drain 31 = .ok (.iaload, 1) := by decide +kernel
theorem d_SlippedStreamsModel_drain_32 : decode b_SlippedStreamsModel_drain 32 = .ok (.iastore, 1) := by decide +kernel
theorem d_SlippedStreamsModel_drain_33 : decode b_SlippedStreamsModel_drain 33 = .ok (.aload_n 0, 1) := by decide +kernel
theorem d_SlippedStreamsModel_drain_34 : decode b_SlippedStreamsModel_drain 34 = .ok (.aload_n 0, 1) := by decide +kernel
theorem d_SlippedStreamsModel_drain_35 : decode b_SlippedStreamsModel_drain 35 = .ok (.getfield 82, 3) := by decide +kernel
theorem d_SlippedStreamsModel_drain_38 : decode b_SlippedStreamsModel_drain 38 = .ok (.iconst 1, 1) := by decide +kernel
theorem d_SlippedStreamsModel_drain_39 : decode b_SlippedStreamsModel_drain 39 = .ok (.isub, 1) := by decide +kernel
theorem d_SlippedStreamsModel_drain_40 : decode b_SlippedStreamsModel_drain 40 = .ok (.putfield 82, 3) := by decide +kernel
theorem d_SlippedStreamsModel_drain_43 : decode b_SlippedStreamsModel_drain 43 = .ok (.iconst 0, 1) := by decide +kernel
theorem d_SlippedStreamsModel_drain_44 : decode b_SlippedStreamsModel_drain 44 = .ok (.istore_n 1, 1) := by decide +kernel
theorem d_SlippedStreamsModel_drain_45 : decode b_SlippedStreamsModel_drain 45 = .ok (.iload_n 1, 1) := by decide +kernel
theorem d_SlippedStreamsModel_drain_46 : decode b_SlippedStreamsModel_drain 46 = .ok (.aload_n 0, 1) := by decide +kernel
theorem d_SlippedStreamsModel_drain_47 : decode b_SlippedStreamsModel_drain 47 = .ok (.getfield 82, 3) := by decide +kernel
theorem d_SlippedStreamsModel_drain_50 : decode b_SlippedStreamsModel_drain 50 = .ok (.if_icmp .ge 51, 3) := by decide +kernel
theorem d_SlippedStreamsModel_drain_53 : decode b_SlippedStreamsModel_drain 53 = .ok (.aload_n 0, 1) := by decide +kernel
theorem d_SlippedStreamsModel_drain_54 : decode b_SlippedStreamsModel_drain 54 = .ok (.getfield 44, 3) := by decide +kernel
theorem d_SlippedStreamsModel_drain_57 : decode b_SlippedStreamsModel_drain 57 = .ok (.iload_n 1, 1) := by decide +kernel
theorem d_SlippedStreamsModel_drain_58 : decode b_SlippedStreamsModel_drain 58 = .ok (.aload_n 0, 1) := by decide +kernel
theorem d_SlippedStreamsModel_drain_59 : decode b_SlippedStreamsModel_drain 59 = .ok (.getfield 44, 3) := by decide +kernel
theorem d_SlippedStreamsModel_drain_62 : decode b_SlippedStreamsModel_drain 62 = .ok (.iload_n 1, 1) := by decide +kernel
theorem d_SlippedStreamsModel_drain_63 : decode b_SlippedStreamsModel_drain 63 = .ok (.iconst 1, 1) := by decide +kernel
theorem d_SlippedStreamsModel_drain_64 : decode b_SlippedStreamsModel_drain 64 = .ok (.iadd, 1) := by decide +kernel
theorem d_SlippedStreamsModel_drain_65 : decode b_SlippedStreamsModel_drain 65 = .ok (.iaload, 1) := by decide +kernel
theorem d_SlippedStreamsModel_drain_66 : decode b_SlippedStreamsModel_drain 66 = .ok (.iastore, 1) := by decide +kernel
theorem d_SlippedStreamsModel_drain_67 : decode b_SlippedStreamsModel_drain 67 = .ok (.aload_n 0, 1) := by decide +kernel
theorem d_SlippedStreamsModel_drain_68 : decode b_SlippedStreamsModel_drain 68 = .ok (.getfield 47, 3) := by decide +kernel
theorem d_SlippedStreamsModel_drain_71 : decode b_SlippedStreamsModel_drain 71 = .ok (.iload_n 1, 1) := by decide +kernel
theorem d_SlippedStreamsModel_drain_72 : decode b_SlippedStreamsModel_drain 72 = .ok (.aload_n 0, 1) := by decide +kernel
theorem d_SlippedStreamsModel_drain_73 : decode b_SlippedStreamsModel_drain 73 = .ok (.getfield 47, 3) := by decide +kernel
theorem d_SlippedStreamsModel_drain_76 : decode b_SlippedStreamsModel_drain 76 = .ok (.iload_n 1, 1) := by decide +kernel
theorem d_SlippedStreamsModel_drain_77 : decode b_SlippedStreamsModel_drain 77 = .ok (.iconst 1, 1) := by decide +kernel
theorem d_SlippedStreamsModel_drain_78 : decode b_SlippedStreamsModel_drain 78 = .ok (.iadd, 1) := by decide +kernel
theorem d_SlippedStreamsModel_drain_79 : decode b_SlippedStreamsModel_drain 79 = .ok (.iaload, 1) := by decide +kernel
theorem d_SlippedStreamsModel_drain_80 : decode b_SlippedStreamsModel_drain 80 = .ok (.iastore, 1) := by decide +kernel
theorem d_SlippedStreamsModel_drain_81 : decode b_SlippedStreamsModel_drain 81 = .ok (.aload_n 0, 1) := by decide +kernel
theorem d_SlippedStreamsModel_drain_82 : decode b_SlippedStreamsModel_drain 82 = .ok (.getfield 50, 3) := by decide +kernel
theorem d_SlippedStreamsModel_drain_85 : decode b_SlippedStreamsModel_drain 85 = .ok (.iload_n 1, 1) := by decide +kernel
theorem d_SlippedStreamsModel_drain_86 : decode b_SlippedStreamsModel_drain 86 = .ok (.aload_n 0, 1) := by decide +kernel
theorem d_SlippedStreamsModel_drain_87 : decode b_SlippedStreamsModel_drain 87 = .ok (.getfield 50, 3) := by decide +kernel
theorem d_SlippedStreamsModel_drain_90 : decode b_SlippedStreamsModel_drain 90 = .ok (.iload_n 1, 1) := by decide +kernel
theorem d_SlippedStreamsModel_drain_91 : decode b_SlippedStreamsModel_drain 91 = .ok (.iconst 1, 1) := by decide +kernel
theorem d_SlippedStreamsModel_drain_92 : decode b_SlippedStreamsModel_drain 92 = .ok (.iadd, 1) := by decide +kernel
theorem d_SlippedStreamsModel_drain_93 : decode b_SlippedStreamsModel_drain 93 = .ok (.baload, 1) := by decide +kernel
theorem d_SlippedStreamsModel_drain_94 : decode b_SlippedStreamsModel_drain 94 = .ok (.bastore, 1) := by decide +kernel
theorem d_SlippedStreamsModel_drain_95 : decode b_SlippedStreamsModel_drain 95 = .ok (.iinc 1 1, 3) := by decide +kernel
theorem d_SlippedStreamsModel_drain_98 : decode b_SlippedStreamsModel_drain 98 = .ok (.goto (-53), 3) := by decide +kernel
theorem d_SlippedStreamsModel_drain_101 : decode b_SlippedStreamsModel_drain 101 = .ok (.goto (-101), 3) := by decide +kernel
theorem d_SlippedStreamsModel_drain_104 : decode b_SlippedStreamsModel_drain 104 = .ok (.return_, 1) := by decide +kernel
theorem d_SlippedStreamsModel_store_0 : decode b_SlippedStreamsModel_store 0 = .ok (.aload_n 0, 1) := by decide +kernel
theorem d_SlippedStreamsModel_store_1 : decode b_SlippedStreamsModel_store 1 = .ok (.getfield 82, 3) := by decide +kernel
theorem d_SlippedStreamsModel_store_4 : decode b_SlippedStreamsModel_store 4 = .ok (.bipush 6, 2) := by decide +kernel
theorem d_SlippedStreamsModel_store_6 : decode b_SlippedStreamsModel_store 6 = .ok (.if_icmp .ne 5, 3) := by decide +kernel
theorem d_SlippedStreamsModel_store_9 : decode b_SlippedStreamsModel_store 9 = .ok (.iconst 0, 1) := by decide +kernel
theorem d_SlippedStreamsModel_store_10 : decode b_SlippedStreamsModel_store 10 = .ok (.ireturn, 1) := by decide +kernel
theorem d_SlippedStreamsModel_store_11 : decode b_SlippedStreamsModel_store 11 = .ok (.aload_n 0, 1) := by decide +kernel
theorem d_SlippedStreamsModel_store_12 : decode b_SlippedStreamsModel_store 12 = .ok (.getfield 22, 3) := by decide +kernel
theorem d_SlippedStreamsModel_store_15 : decode b_SlippedStreamsModel_store 15 = .ok (.aload_n 0, 1) := by decide +kernel
theorem d_SlippedStreamsModel_store_16 : decode b_SlippedStreamsModel_store 16 = .ok (.getfield 13, 3) := by decide +kernel
theorem d_SlippedStreamsModel_store_19 : decode b_SlippedStreamsModel_store 19 = .ok (.iload_n 1, 1) := by decide +kernel
theorem d_SlippedStreamsModel_store_20 : decode b_SlippedStreamsModel_store 20 = .ok (.iaload, 1) := by decide +kernel
theorem d_SlippedStreamsModel_store_21 : decode b_SlippedStreamsModel_store 21 = .ok (.baload, 1) := by decide +kernel
theorem d_SlippedStreamsModel_store_22 : decode b_SlippedStreamsModel_store 22 = .ok (.istore_n 2, 1) := by decide +kernel
theorem d_SlippedStreamsModel_store_23 : decode b_SlippedStreamsModel_store 23 = .ok (.aload_n 0, 1) := by decide +kernel
theorem d_SlippedStreamsModel_store_24 : decode b_SlippedStreamsModel_store 24 = .ok (.getfield 44, 3) := by decide +kernel
theorem d_SlippedStreamsModel_store_27 : decode b_SlippedStreamsModel_store 27 = .ok (.aload_n 0, 1) := by decide +kernel
theorem d_SlippedStreamsModel_store_28 : decode b_SlippedStreamsModel_store 28 = .ok (.getfield 82, 3) := by decide +kernel
theorem d_SlippedStreamsModel_store_31 : decode b_SlippedStreamsModel_store 31 = .ok (.aload_n 0, 1) := by decide +kernel
theorem d_SlippedStreamsModel_store_32 : decode b_SlippedStreamsModel_store 32 = .ok (.getfield 26, 3) := by decide +kernel
theorem d_SlippedStreamsModel_store_35 : decode b_SlippedStreamsModel_store 35 = .ok (.aload_n 0, 1) := by decide +kernel
theorem d_SlippedStreamsModel_store_36 : decode b_SlippedStreamsModel_store 36 = .ok (.getfield 16, 3) := by decide +kernel
theorem d_SlippedStreamsModel_store_39 : decode b_SlippedStreamsModel_store 39 = .ok (.iload_n 1, 1) := by decide +kernel
theorem d_SlippedStreamsModel_store_40 : decode b_SlippedStreamsModel_store 40 = .ok (.iaload, 1) := by decide +kernel
theorem d_SlippedStreamsModel_store_41 : decode b_SlippedStreamsModel_store 41 = .ok (.iaload, 1) := by decide +kernel
theorem d_SlippedStreamsModel_store_42 : decode b_SlippedStreamsModel_store 42 = .ok (.aload_n 0, 1) := by decide +kernel
theorem d_SlippedStreamsModel_store_43 : decode b_SlippedStreamsModel_store 43 = .ok (.getfield 19, 3) := by decide +kernel
theorem d_SlippedStreamsModel_store_46 : decode b_SlippedStreamsModel_store 46 = .ok (.iload_n 1, 1) := by decide +kernel
theorem d_SlippedStreamsModel_store_47 : decode b_SlippedStreamsModel_store 47 = .ok (.iaload, 1) := by decide +kernel
theorem d_SlippedStreamsModel_store_48 : decode b_SlippedStreamsModel_store 48 = .ok (.iadd, 1) := by decide +kernel
theorem d_SlippedStreamsModel_store_49 : decode b_SlippedStreamsModel_store 49 = .ok (.bipush 31, 2) := by decide +kernel
theorem d_SlippedStreamsModel_store_51 : decode b_SlippedStreamsModel_store 51 = .ok (.iand, 1) := by decide +kernel
theorem d_SlippedStreamsModel_store_52 : decode b_SlippedStreamsModel_store 52 = .ok (.iastore, 1) := by decide +kernel
theorem d_SlippedStreamsModel_store_53 : decode b_SlippedStreamsModel_store 53 = .ok (.aload_n 0, 1) := by decide +kernel
theorem d_SlippedStreamsModel_store_54 : decode b_SlippedStreamsModel_store 54 = .ok (.getfield 50, 3) := by decide +kernel
theorem d_SlippedStreamsModel_store_57 : decode b_SlippedStreamsModel_store 57 = .ok (.aload_n 0, 1) := by decide +kernel
theorem d_SlippedStreamsModel_store_58 : decode b_SlippedStreamsModel_store 58 = .ok (.getfield 82, 3) := by decide +kernel
theorem d_SlippedStreamsModel_store_61 : decode b_SlippedStreamsModel_store 61 = .ok (.iload_n 2, 1) := by decide +kernel
theorem d_SlippedStreamsModel_store_62 : decode b_SlippedStreamsModel_store 62 = .ok (.ifCond .ne 12, 3) := by decide +kernel
theorem d_SlippedStreamsModel_store_65 : decode b_SlippedStreamsModel_store 65 = .ok (.aload_n 0, 1) := by decide +kernel
theorem d_SlippedStreamsModel_store_66 : decode b_SlippedStreamsModel_store 66 = .ok (.getfield 41, 3) := by decide +kernel
theorem d_SlippedStreamsModel_store_69 : decode b_SlippedStreamsModel_store 69 = .ok (.iconst 1, 1) := by decide +kernel
theorem d_SlippedStreamsModel_store_70 : decode b_SlippedStreamsModel_store 70 = .ok (.iaload, 1) := by decide +kernel
theorem d_SlippedStreamsModel_store_71 : decode b_SlippedStreamsModel_store 71 = .ok (.ifCond .le 7, 3) := by decide +kernel
theorem d_SlippedStreamsModel_store_74 : decode b_SlippedStreamsModel_store 74 = .ok (.iconst 1, 1) := by decide +kernel
theorem d_SlippedStreamsModel_store_75 : decode b_SlippedStreamsModel_store 75 = .ok (.goto 4, 3) := by decide +kernel
theorem d_SlippedStreamsModel_store_78 : decode b_SlippedStreamsModel_store 78 = .ok (.iconst 0, 1) := by decide +kernel
theorem d_SlippedStreamsModel_store_79 : decode b_SlippedStreamsModel_store 79 = .ok (.bastore, 1) := by decide +kernel
theorem d_SlippedStreamsModel_store_80 : decode b_SlippedStreamsModel_store 80 = .ok (.aload_n 0, 1) := by decide +kernel
theorem d_SlippedStreamsModel_store_81 : decode b_SlippedStreamsModel_store 81 = .ok (.getfield 47, 3) := by decide +kernel
theorem d_SlippedStreamsModel_store_84 : decode b_SlippedStreamsModel_store 84 = .ok (.aload_n 0, 1) := by decide +kernel
theorem d_SlippedStreamsModel_store_85 : decode b_SlippedStreamsModel_store 85 = .ok (.getfield 82, 3) := by decide +kernel
theorem d_SlippedStreamsModel_store_88 : decode b_SlippedStreamsModel_store 88 = .ok (.iload_n 2, 1) := by decide +kernel
theorem d_SlippedStreamsModel_store_89 : decode b_SlippedStreamsModel_store 89 = .ok (.ifCond .eq 17, 3) := by decide +kernel
theorem d_SlippedStreamsModel_store_92 : decode b_SlippedStreamsModel_store 92 = .ok (.aload_n 0, 1) := by decide +kernel
theorem d_SlippedStreamsModel_store_93 : decode b_SlippedStreamsModel_store 93 = .ok (.getfield 26, 3) := by decide +kernel
theorem d_SlippedStreamsModel_store_96 : decode b_SlippedStreamsModel_store 96 = .ok (.aload_n 0, 1) := by decide +kernel
theorem d_SlippedStreamsModel_store_97 : decode b_SlippedStreamsModel_store 97 = .ok (.getfield 13, 3) := by decide +kernel
theorem d_SlippedStreamsModel_store_100 : decode b_SlippedStreamsModel_store 100 = .ok (.iload_n 1, 1) := by decide +kernel
theorem d_SlippedStreamsModel_store_101 : decode b_SlippedStreamsModel_store 101 = .ok (.iaload, 1) := by decide +kernel
theorem d_SlippedStreamsModel_store_102 : decode b_SlippedStreamsModel_store 102 = .ok (.iaload, 1) := by decide +kernel
theorem d_SlippedStreamsModel_store_103 : decode b_SlippedStreamsModel_store 103 = .ok (.goto 21, 3) := by decide +kernel
theorem d_SlippedStreamsModel_store_106 : decode b_SlippedStreamsModel_store 106 = .ok (.aload_n 0, 1) := by decide +kernel
theorem d_SlippedStreamsModel_store_107 : decode b_SlippedStreamsModel_store 107 = .ok (.getfield 41, 3) := by decide +kernel
theorem d_SlippedStreamsModel_store_110 : decode b_SlippedStreamsModel_store 110 = .ok (.iconst 1, 1) := by decide +kernel
theorem d_SlippedStreamsModel_store_111 : decode b_SlippedStreamsModel_store 111 = .ok (.iaload, 1) := by decide +kernel
theorem d_SlippedStreamsModel_store_112 : decode b_SlippedStreamsModel_store 112 = .ok (.ifCond .le 11, 3) := by decide +kernel
theorem d_SlippedStreamsModel_store_115 : decode b_SlippedStreamsModel_store 115 = .ok (.aload_n 0, 1) := by decide +kernel
theorem d_SlippedStreamsModel_store_116 : decode b_SlippedStreamsModel_store 116 = .ok (.iconst 1, 1) := by decide +kernel
theorem d_SlippedStreamsModel_store_117 : decode b_SlippedStreamsModel_store 117 = .ok (.invokevirtual 142, 3) := by decide +kernel
theorem d_SlippedStreamsModel_store_120 : decode b_SlippedStreamsModel_store 120 = .ok (.goto 4, 3) := by decide +kernel
theorem d_SlippedStreamsModel_store_123 : decode b_SlippedStreamsModel_store 123 = .ok (.iconst 0, 1) := by decide +kernel
theorem d_SlippedStreamsModel_store_124 : decode b_SlippedStreamsModel_store 124 = .ok (.iastore, 1) := by decide +kernel
theorem d_SlippedStreamsModel_store_125 : decode b_SlippedStreamsModel_store 125 = .ok (.aload_n 0, 1) := by decide +kernel
theorem d_SlippedStreamsModel_store_126 : decode b_SlippedStreamsModel_store 126 = .ok (.aload_n 0, 1) := by decide +kernel
theorem d_SlippedStreamsModel_store_127 : decode b_SlippedStreamsModel_store 127 = .ok (.getfield 82, 3) := by decide +kernel
theorem d_SlippedStreamsModel_store_130 : decode b_SlippedStreamsModel_store 130 = .ok (.iconst 1, 1) := by decide +kernel
theorem d_SlippedStreamsModel_store_131 : decode b_SlippedStreamsModel_store 131 = .ok (.iadd, 1) := by decide +kernel
theorem d_SlippedStreamsModel_store_132 : decode b_SlippedStreamsModel_store 132 = .ok (.putfield 82, 3) := by decide +kernel
theorem d_SlippedStreamsModel_store_135 : decode b_SlippedStreamsModel_store 135 = .ok (.aload_n 0, 1) := by decide +kernel
theorem d_SlippedStreamsModel_store_136 : decode b_SlippedStreamsModel_store 136 = .ok (.invokevirtual 145, 3) := by decide +kernel
theorem d_SlippedStreamsModel_store_139 : decode b_SlippedStreamsModel_store 139 = .ok (.aload_n 0, 1) := by decide +kernel
theorem d_SlippedStreamsModel_store_140 : decode b_SlippedStreamsModel_store 140 = .ok (.iconst 0, 1) := by decide +kernel
theorem d_SlippedStreamsModel_store_141 : decode b_SlippedStreamsModel_store 141 = .ok (.iload_n 1, 1) := by decide +kernel
theorem d_SlippedStreamsModel_store_142 : decode b_SlippedStreamsModel_store 142 = .ok (.iconst 1, 1) := by decide +kernel
theorem d_SlippedStreamsModel_store_143 : decode b_SlippedStreamsModel_store 143 = .ok (.iadd, 1) := by decide +kernel
theorem d_SlippedStreamsModel_store_144 : decode b_SlippedStreamsModel_store 144 = .ok (.invokevirtual 139, 3) := by decide +kernel
theorem d_SlippedStreamsModel_store_147 : decode b_SlippedStreamsModel_store 147 = .ok (.iconst 1, 1) := by decide +kernel
theorem d_SlippedStreamsModel_store_148 : decode b_SlippedStreamsModel_store 148 = .ok (.ireturn, 1) := by decide +kernel
theorem d_SlippedStreamsModel_isInList_0 : decode b_SlippedStreamsModel_isInList 0 = .ok (.iconst 0, 1) := by decide +kernel
theorem d_SlippedStreamsModel_isInList_1 : decode b_SlippedStreamsModel_isInList 1 = .ok (.istore_n 2, 1) := by decide +kernel
theorem d_SlippedStreamsModel_isInList_2 : decode b_SlippedStreamsModel_isInList 2 = .ok (.iconst 0, 1) := by decide +kernel
theorem d_SlippedStreamsModel_isInList_3 : decode b_SlippedStreamsModel_isInList 3 = .ok (.istore_n 3, 1) := by decide +kernel
theorem d_SlippedStreamsModel_isInList_4 : decode b_SlippedStreamsModel_isInList 4 = .ok (.iload_n 3, 1) := by decide +kernel
theorem d_SlippedStreamsModel_isInList_5 : decode b_SlippedStreamsModel_isInList 5 = .ok (.aload_n 0, 1) := by decide +kernel
theorem d_SlippedStreamsModel_isInList_6 : decode b_SlippedStreamsModel_isInList 6 = .ok (.getfield 82, 3) := by decide +kernel
theorem d_SlippedStreamsModel_isInList_9 : decode b_SlippedStreamsModel_isInList 9 = .ok (.if_icmp .ge 29, 3) := by decide +kernel
theorem d_SlippedStreamsModel_isInList_12 : decode b_SlippedStreamsModel_isInList 12 = .ok (.iload_n 2, 1) := by decide +kernel
theorem d_SlippedStreamsModel_isInList_13 : decode b_SlippedStreamsModel_isInList 13 = .ok (.ifCond .ne 13, 3) := by decide +kernel
theorem d_SlippedStreamsModel_isInList_16 : decode b_SlippedStreamsModel_isInList 16 = .ok (.aload_n 0, 1) := by decide +kernel
theorem d_SlippedStreamsModel_isInList_17 : decode b_SlippedStreamsModel_isInList 17 = .ok (.getfield 44, 3) := by decide +kernel
theorem d_SlippedStreamsModel_isInList_20 : decode b_SlippedStreamsModel_isInList 20 = .ok (.iload_n 3, 1) := by decide +kernel
theorem d_SlippedStreamsModel_isInList_21 : decode b_SlippedStreamsModel_isInList 21 = .ok (.iaload, 1) := by decide +kernel
theorem d_SlippedStreamsModel_isInList_22 : decode b_SlippedStreamsModel_isInList 22 = .ok (.iload_n 1, 1) := by decide +kernel
theorem d_SlippedStreamsModel_isInList_23 : decode b_SlippedStreamsModel_isInList 23 = .ok (.if_icmp .ne 7, 3) := by decide +kernel
theorem d_SlippedStreamsModel_isInList_26 : decode b_SlippedStreamsModel_isInList 26 = .ok (.iconst 1, 1) := by decide +kernel
theorem d_SlippedStreamsModel_isInList_27 : decode b_SlippedStreamsModel_isInList 27 = .ok (.goto 4, 3) := by decide +kernel
theorem d_SlippedStreamsModel_isInList_30 : decode b_SlippedStreamsModel_isInList 30 = .ok (.iconst 0, 1) := by decide +kernel
theorem d_SlippedStreamsModel_isInList_31 : decode b_SlippedStreamsModel_isInList 31 = .ok (.istore_n 2, 1) := by decide +kernel
theorem d_SlippedStreamsModel_isInList_32 : decode b_SlippedStreamsModel_isInList 32 = .ok (.iinc 3 1, 3) := by decide +kernel
theorem d_SlippedStreamsModel_isInList_35 : decode b_SlippedStreamsModel_isInList 35 = .ok (.goto (-31), 3) := by decide +kernel
theorem d_SlippedStreamsModel_isInList_38 : decode b_SlippedStreamsModel_isInList 38 = .ok (.iload_n 2, 1) := by decide +kernel
theorem d_SlippedStreamsModel_isInList_39 : decode b_SlippedStreamsModel_isInList 39 = .ok (.ireturn, 1) := by decide +kernel
theorem d_SlippedStreamsModel_load_0 : decode b_SlippedStreamsModel_load 0 = .ok (.aload_n 0, 1) := by decide +kernel
theorem d_SlippedStreamsModel_load_1 : decode b_SlippedStreamsModel_load 1 = .ok (.getfield 26, 3) := by decide +kernel
theorem d_SlippedStreamsModel_load_4 : decode b_SlippedStreamsModel_load 4 = .ok (.aload_n 0, 1) := by decide +kernel
theorem d_SlippedStreamsModel_load_5 : decode b_SlippedStreamsModel_load 5 = .ok (.getfield 16, 3) := by decide +kernel
theorem d_SlippedStreamsModel_load_8 : decode b_SlippedStreamsModel_load 8 = .ok (.iload_n 1, 1) := by decide +kernel
theorem d_SlippedStreamsModel_load_9 : decode b_SlippedStreamsModel_load 9 = .ok (.iaload, 1) := by decide +kernel
theorem d_SlippedStreamsModel_load_10 : decode b_SlippedStreamsModel_load 10 = .ok (.iaload, 1) := by decide +kernel
theorem d_SlippedStreamsModel_load_11 : decode b_SlippedStreamsModel_load 11 = .ok (.aload_n 0, 1) := by decide +kernel
theorem d_SlippedStreamsModel_load_12 : decode b_SlippedStreamsModel_load 12 = .ok (.getfield 19, 3) := by decide +kernel
theorem d_SlippedStreamsModel_load_15 : decode b_SlippedStreamsModel_load 15 = .ok (.iload_n 1, 1) := by decide +kernel
theorem d_SlippedStreamsModel_load_16 : decode b_SlippedStreamsModel_load 16 = .ok (.iaload, 1) := by decide +kernel
theorem d_SlippedStreamsModel_load_17 : decode b_SlippedStreamsModel_load 17 = .ok (.iadd, 1) := by decide +kernel
theorem d_SlippedStreamsModel_load_18 : decode b_SlippedStreamsModel_load 18 = .ok (.bipush 31, 2) := by decide +kernel
theorem d_SlippedStreamsModel_load_20 : decode b_SlippedStreamsModel_load 20 = .ok (.iand, 1) := by decide +kernel
theorem d_SlippedStreamsModel_load_21 : decode b_SlippedStreamsModel_load 21 = .ok (.istore_n 2, 1) := by decide +kernel
theorem d_SlippedStreamsModel_load_22 : decode b_SlippedStreamsModel_load 22 = .ok (.aload_n 0, 1) := by decide +kernel
theorem d_SlippedStreamsModel_load_23 : decode b_SlippedStreamsModel_load 23 = .ok (.iload_n 1, 1) := by decide +kernel
theorem d_SlippedStreamsModel_load_24 : decode b_SlippedStreamsModel_load 24 = .ok (.invokevirtual 118, 3) := by decide +kernel
theorem d_SlippedStreamsModel_load_27 : decode b_SlippedStreamsModel_load 27 = .ok (.ifCond .ne 7, 3) := by decide +kernel
theorem d_SlippedStreamsModel_load_30 : decode b_SlippedStreamsModel_load 30 = .ok (.iconst 1, 1) := by decide +kernel
theorem d_SlippedStreamsModel_load_31 : decode b_SlippedStreamsModel_load 31 = .ok (.goto 4, 3) := by decide +kernel
theorem d_SlippedStreamsModel_load_34 : decode b_SlippedStreamsModel_load 34 = .ok (.iconst 0, 1) := by decide +kernel
theorem d_SlippedStreamsModel_load_35 : decode b_SlippedStreamsModel_load 35 = .ok (.istore_n 3, 1) := by decide +kernel
theorem d_SlippedStreamsModel_load_36 : decode b_SlippedStreamsModel_load 36 = .ok (.aload_n 0, 1) := by decide +kernel
theorem d_SlippedStreamsModel_load_37 : decode b_SlippedStreamsModel_load 37 = .ok (.iload_n 2, 1) := by decide +kernel
theorem d_SlippedStreamsModel_load_38 : decode b_SlippedStreamsModel_load 38 = .ok (.invokevirtual 133, 3) := by decide +kernel
theorem d_SlippedStreamsModel_load_41 : decode b_SlippedStreamsModel_load 41 = .ok (.ifCond .ne 16, 3) := by decide +kernel
theorem d_SlippedStreamsModel_load_44 : decode b_SlippedStreamsModel_load 44 = .ok (.iload_n 3, 1) := by decide +kernel
theorem d_SlippedStreamsModel_load_45 : decode b_SlippedStreamsModel_load 45 = .ok (.ifCond .ne 14, 3) := by decide +kernel
theorem d_SlippedStreamsModel_load_48 : decode b_SlippedStreamsModel_load 48 = .ok (.aload_n 0, 1) := by decide +kernel
theorem d_SlippedStreamsModel_load_49 : decode b_SlippedStreamsModel_load 49 = .ok (.iconst 0, 1) := by decide +kernel
theorem d_SlippedStreamsModel_load_50 : decode b_SlippedStreamsModel_load 50 = .ok (.iconst 1, 1) := by decide +kernel
theorem d_SlippedStreamsModel_load_51 : decode b_SlippedStreamsModel_load 51 = .ok (.invokevirtual 136, 3) := by decide +kernel
theorem d_SlippedStreamsModel_load_54 : decode b_SlippedStreamsModel_load 54 = .ok (.ifCond .ne 5, 3) := by decide +kernel
theorem d_SlippedStreamsModel_load_57 : decode b_SlippedStreamsModel_load 57 = .ok (.iconst 0, 1) := by decide +kernel
theorem d_SlippedStreamsModel_load_58 : decode b_SlippedStreamsModel_load 58 = .ok (.ireturn, 1) := by decide +kernel
theorem d_SlippedStreamsModel_load_59 : decode b_SlippedStreamsModel_load 59 = .ok (.iload_n 3, 1) := by decide +kernel
theorem d_SlippedStreamsModel_load_60 : decode b_SlippedStreamsModel_load 60 = .ok (.ifCond .eq 23, 3) := by decide +kernel
theorem d_SlippedStreamsModel_load_63 : decode b_SlippedStreamsModel_load 63 = .ok (.aload_n 0, 1) := by decide +kernel
theorem d_SlippedStreamsModel_load_64 : decode b_SlippedStreamsModel_load 64 = .ok (.getfield 26, 3) := by decide +kernel
theorem d_SlippedStreamsModel_load_67 : decode b_SlippedStreamsModel_load 67 = .ok (.aload_n 0, 1) := by decide +kernel
theorem d_SlippedStreamsModel_load_68 : decode b_SlippedStreamsModel_load 68 = .ok (.getfield 13, 3) := by decide +kernel
theorem d_SlippedStreamsModel_load_71 : decode b_SlippedStreamsModel_load 71 = .ok (.iload_n 1, 1) := by decide +kernel
theorem d_SlippedStreamsModel_load_72 : decode b_SlippedStreamsModel_load 72 = .ok (.iaload, 1) := by decide +kernel
theorem d_SlippedStreamsModel_load_73 : decode b_SlippedStreamsModel_load 73 = .ok (.aload_n 0, 1) := by decide +kernel
theorem d_SlippedStreamsModel_load_74 : decode b_SlippedStreamsModel_load 74 = .ok (.getfield 35, 3) := by decide +kernel
theorem d_SlippedStreamsModel_load_77 : decode b_SlippedStreamsModel_load 77 = .ok (.iload_n 2, 1) := by decide +kernel
theorem d_SlippedStreamsModel_load_78 : decode b_SlippedStreamsModel_load 78 = .ok (.iaload, 1) := by decide +kernel
theorem d_SlippedStreamsModel_load_79 : decode b_SlippedStreamsModel_load 79 = .ok (.iastore, 1) := by decide +kernel
theorem d_SlippedStreamsModel_load_80 : decode b_SlippedStreamsModel_load 80 = .ok (.goto 14, 3) := by decide +kernel
theorem d_SlippedStreamsModel_load_83 : decode b_SlippedStreamsModel_load 83 = .ok (.aload_n 0, 1) := by decide +kernel
theorem d_SlippedStreamsModel_load_84 : decode b_SlippedStreamsModel_load 84 = .ok (.iconst 0, 1) := by decide +kernel
theorem d_SlippedStreamsModel_load_85 : decode b_SlippedStreamsModel_load 85 = .ok (.aload_n 0, 1) := by decide +kernel
theorem d_SlippedStreamsModel_load_86 : decode b_SlippedStreamsModel_load 86 = .ok (.getfield 35, 3) := by decide +kernel
theorem d_SlippedStreamsModel_load_89 : decode b_SlippedStreamsModel_load 89 = .ok (.iload_n 2, 1) := by decide +kernel
theorem d_SlippedStreamsModel_load_90 : decode b_SlippedStreamsModel_load 90 = .ok (.iaload, 1) := by decide +kernel
theorem d_SlippedStreamsModel_load_91 : decode b_SlippedStreamsModel_load 91 = .ok (.invokevirtual 129, 3) := by decide +kernel
theorem d_SlippedStreamsModel_load_94 : decode b_SlippedStreamsModel_load 94 = .ok (.aload_n 0, 1) := by decide +kernel
theorem d_SlippedStreamsModel_load_95 : decode b_SlippedStreamsModel_load 95 = .ok (.iconst 0, 1) := by decide +kernel
theorem d_SlippedStreamsModel_load_96 : decode b_SlippedStreamsModel_load 96 = .ok (.iload_n 1, 1) := by decide +kernel
theorem d_SlippedStreamsModel_load_97 : decode b_SlippedStreamsModel_load 97 = .ok (.iconst 1, 1) := by decide +kernel
theorem d_SlippedStreamsModel_load_98 : decode b_SlippedStreamsModel_load 98 = .ok (.iadd, 1) := by decide +kernel
theorem d_SlippedStreamsModel_load_99 : decode b_SlippedStreamsModel_load 99 = .ok (.invokevirtual 139, 3) := by decide +kernel
theorem d_SlippedStreamsModel_load_102 : decode b_SlippedStreamsModel_load 102 = .ok (.iconst 1, 1) := by decide +kernel
theorem d_SlippedStreamsModel_load_103 : decode b_SlippedStreamsModel_load 103 = .ok (.ireturn, 1) := by decide +kernel
theorem d_SlippedStreamsModel_moveAddress_0 : decode b_SlippedStreamsModel_moveAddress 0 = .ok (.aload_n 0, 1) := by decide +kernel
theorem d_SlippedStreamsModel_moveAddress_1 : decode b_SlippedStreamsModel_moveAddress 1 = .ok (.getfield 29, 3) := by decide +kernel
theorem d_SlippedStreamsModel_moveAddress_4 : decode b_SlippedStreamsModel_moveAddress 4 = .ok (.iconst 0, 1) := by decide +kernel
theorem d_SlippedStreamsModel_moveAddress_5 : decode b_SlippedStreamsModel_moveAddress 5 = .ok (.iaload, 1) := by decide +kernel
theorem d_SlippedStreamsModel_moveAddress_6 : decode b_SlippedStreamsModel_moveAddress 6 = .ok (.istore_n 1, 1) := by decide +kernel
theorem d_SlippedStreamsModel_moveAddress_7 : decode b_SlippedStreamsModel_moveAddress 7 = .ok (.aload_n 0, 1) := by decide +kernel
theorem d_SlippedStreamsModel_moveAddress_8 : decode b_SlippedStreamsModel_moveAddress 8 = .ok (.iconst 0, 1) := by decide +kernel
theorem d_SlippedStreamsModel_moveAddress_9 : decode b_SlippedStreamsModel_moveAddress 9 = .ok (.putfield 151, 3) := by decide +kernel
theorem d_SlippedStreamsModel_moveAddress_12 : decode b_SlippedStreamsModel_moveAddress 12 = .ok (.iload_n 1, 1) := by decide +kernel
theorem d_SlippedStreamsModel_moveAddress_13 : decode b_SlippedStreamsModel_moveAddress 13 = .ok (.aload_n 0, 1) := by decide +kernel
theorem d_SlippedStreamsModel_moveAddress_14 : decode b_SlippedStreamsModel_moveAddress 14 = .ok (.getfield 62, 3) := by decide +kernel
theorem d_SlippedStreamsModel_moveAddress_17 : decode b_SlippedStreamsModel_moveAddress 17 = .ok (.if_icmp .lt 5, 3) := by decide +kernel
theorem d_SlippedStreamsModel_moveAddress_20 : decode b_SlippedStreamsModel_moveAddress 20 = .ok (.iconst 0, 1) := by decide +kernel
theorem d_SlippedStreamsModel_moveAddress_21 : decode b_SlippedStreamsModel_moveAddress 21 = .ok (.ireturn, 1) := by decide +kernel
theorem d_SlippedStreamsModel_moveAddress_22 : decode b_SlippedStreamsModel_moveAddress 22 = .ok (.aload_n 0, 1) := by decide +kernel
theorem d_SlippedStreamsModel_moveAddress_23 : decode b_SlippedStreamsModel_moveAddress 23 = .ok (.getfield 7, 3) := by decide +kernel
theorem d_SlippedStreamsModel_moveAddress_26 : decode b_SlippedStreamsModel_moveAddress 26 = .ok (.iload_n 1, 1) := by decide +kernel
theorem d_SlippedStreamsModel_moveAddress_27 : decode b_SlippedStreamsModel_moveAddress 27 = .ok (.iaload, 1) := by decide +kernel
theorem d_SlippedStreamsModel_moveAddress_28 : decode b_SlippedStreamsModel_moveAddress 28 = .ok (.istore_n 2, 1) := by decide +kernel
theorem d_SlippedStreamsModel_moveAddress_29 : decode b_SlippedStreamsModel_moveAddress 29 = .ok (.iload_n 2, 1) := by decide +kernel
theorem d_SlippedStreamsModel_moveAddress_30 : decode b_SlippedStreamsModel_moveAddress 30 = .ok (.iconst 4, 1) := by decide +kernel
theorem d_SlippedStreamsModel_moveAddress_31 : decode b_SlippedStreamsModel_moveAddress 31 = .ok (.if_icmp .ne 9, 3) := by decide +kernel
theorem d_SlippedStreamsModel_moveAddress_34 : decode b_SlippedStreamsModel_moveAddress 34 = .ok (.aload_n 0, 1) := by decide +kernel
theorem d_SlippedStreamsModel_moveAddress_35 : decode b_SlippedStreamsModel_moveAddress 35 = .ok (.iload_n 1, 1) := by decide +kernel
theorem d_SlippedStreamsModel_moveAddress_36 : decode b_SlippedStreamsModel_moveAddress 36 = .ok (.invokevirtual 154, 3) := by decide +kernel
theorem d_SlippedStreamsModel_moveAddress_39 : decode b_SlippedStreamsModel_moveAddress 39 = .ok (.ireturn, 1) := by decide +kernel
theorem d_SlippedStreamsModel_moveAddress_40 : decode b_SlippedStreamsModel_moveAddress 40 = .ok (.iload_n 2, 1) := by decide +kernel
theorem d_SlippedStreamsModel_moveAddress_41 : decode b_SlippedStreamsModel_moveAddress 41 = .ok (.iconst 5, 1) := by decide +kernel
theorem d_SlippedStreamsModel_moveAddress_42 : decode b_SlippedStreamsModel_moveAddress 42 = .ok (.if_icmp .ne 9, 3) := by decide +kernel
theorem d_SlippedStreamsModel_moveAddress_45 : decode b_SlippedStreamsModel_moveAddress 45 = .ok (.aload_n 0, 1) := by decide +kernel
theorem d_SlippedStreamsModel_moveAddress_46 : decode b_SlippedStreamsModel_moveAddress 46 = .ok (.iload_n 1, 1) := by decide +kernel
theorem d_SlippedStreamsModel_moveAddress_47 : decode b_SlippedStreamsModel_moveAddress 47 = .ok (.invokevirtual 157, 3) := by decide +kernel
theorem d_SlippedStreamsModel_moveAddress_50 : decode b_SlippedStreamsModel_moveAddress 50 = .ok (.ireturn, 1) := by decide +kernel
theorem d_SlippedStreamsModel_moveAddress_51 : decode b_SlippedStreamsModel_moveAddress 51 = .ok (.aload_n 0, 1) := by decide +kernel
theorem d_SlippedStreamsModel_moveAddress_52 : decode b_SlippedStreamsModel_moveAddress 52 = .ok (.iload_n 1, 1) := by decide +kernel
theorem d_SlippedStreamsModel_moveAddress_53 : decode b_SlippedStreamsModel_moveAddress 53 = .ok (.invokevirtual 118, 3) := by decide +kernel
theorem d_SlippedStreamsModel_moveAddress_56 : decode b_SlippedStreamsModel_moveAddress 56 = .ok (.iconst 1, 1) := by decide +kernel
theorem d_SlippedStreamsModel_moveAddress_57 : decode b_SlippedStreamsModel_moveAddress 57 = .ok (.if_icmp .ne 47, 3) := by decide +kernel
theorem d_SlippedStreamsModel_moveAddress_60 : decode b_SlippedStreamsModel_moveAddress 60 = .ok (.aload_n 0, 1) := by decide +kernel
theorem d_SlippedStreamsModel_moveAddress_61 : decode b_SlippedStreamsModel_moveAddress 61 = .ok (.iload_n 1, 1) := by decide +kernel
theorem d_SlippedStreamsModel_moveAddress_62 : decode b_SlippedStreamsModel_moveAddress 62 = .ok (.invokevirtual 115, 3) := by decide +kernel
theorem d_SlippedStreamsModel_moveAddress_65 : decode b_SlippedStreamsModel_moveAddress 65 = .ok (.ifCond .eq 9, 3) := by decide +kernel
theorem d_SlippedStreamsModel_moveAddress_68 : decode b_SlippedStreamsModel_moveAddress 68 = .ok (.aload_n 0, 1) := by decide +kernel
theorem d_SlippedStreamsModel_moveAddress_69 : decode b_SlippedStreamsModel_moveAddress 69 = .ok (.iload_n 1, 1) := by decide +kernel
theorem d_SlippedStreamsModel_moveAddress_70 : decode b_SlippedStreamsModel_moveAddress 70 = .ok (.invokevirtual 160, 3) := by decide +kernel
theorem d_SlippedStreamsModel_moveAddress_73 : decode b_SlippedStreamsModel_moveAddress 73 = .ok (.ireturn, 1) := by decide +kernel
theorem d_SlippedStreamsModel_moveAddress_74 : decode b_SlippedStreamsModel_moveAddress 74 = .ok (.aload_n 0, 1) := by decide +kernel
theorem d_SlippedStreamsModel_moveAddress_75 : decode b_SlippedStreamsModel_moveAddress 75 = .ok (.iconst 4, 1) := by decide +kernel
theorem d_SlippedStreamsModel_moveAddress_76 : decode b_SlippedStreamsModel_moveAddress 76 = .ok (.aload_n 0, 1) := by decide +kernel
theorem d_SlippedStreamsModel_moveAddress_77 : decode b_SlippedStreamsModel_moveAddress 77 = .ok (.iload_n 1, 1) := by decide +kernel
theorem d_SlippedStreamsModel_moveAddress_78 : decode b_SlippedStreamsModel_moveAddress 78 = .ok (.invokevirtual 122, 3) := by decide +kernel
theorem d_SlippedStreamsModel_moveAddress_81 : decode b_SlippedStreamsModel_moveAddress 81 = .ok (.invokevirtual 136, 3) := by decide +kernel
theorem d_SlippedStreamsModel_moveAddress_84 : decode b_SlippedStreamsModel_moveAddress 84 = .ok (.ifCond .ne 5, 3) := by decide +kernel
theorem d_SlippedStreamsModel_moveAddress_87 : decode b_SlippedStreamsModel_moveAddress 87 = .ok (.iconst 0, 1) := by decide +kernel
theorem d_SlippedStreamsModel_moveAddress_88 : decode b_SlippedStreamsModel_moveAddress 88 = .ok (.ireturn, 1) := by decide +kernel
theorem d_SlippedStreamsModel_moveAddress_89 : decode b_SlippedStreamsModel_moveAddress 89 = .ok (.aload_n 0, 1) := by decide +kernel
theorem d_SlippedStreamsModel_moveAddress_90 : decode b_SlippedStreamsModel_moveAddress 90 = .ok (.iload_n 1, 1) := by decide +kernel
theorem d_SlippedStreamsModel_moveAddress_91 : decode b_SlippedStreamsModel_moveAddress 91 = .ok (.invokevirtual 148, 3) := by decide +kernel
theorem d_SlippedStreamsModel_moveAddress_94 : decode b_SlippedStreamsModel_moveAddress 94 = .ok (.aload_n 0, 1) := by decide +kernel
theorem d_SlippedStreamsModel_moveAddress_95 : decode b_SlippedStreamsModel_moveAddress 95 = .ok (.iconst 0, 1) := by decide +kernel
theorem d_SlippedStreamsModel_moveAddress_96 : decode b_SlippedStreamsModel_moveAddress 96 = .ok (.iload_n 1, 1) := by decide +kernel
theorem d_SlippedStreamsModel_moveAddress_97 : decode b_SlippedStreamsModel_moveAddress 97 = .ok (.iconst 1, 1) := by decide +kernel
theorem d_SlippedStreamsModel_moveAddress_98 : decode b_SlippedStreamsModel_moveAddress 98 = .ok (.iadd, 1) := by decide +kernel
theorem d_SlippedStreamsModel_moveAddress_99 : decode b_SlippedStreamsModel_moveAddress 99 = .ok (.invokevirtual 139, 3) := by decide +kernel
theorem d_SlippedStreamsModel_moveAddress_102 : decode b_SlippedStreamsModel_moveAddress 102 = .ok (.iconst 1, 1) := by decide +kernel
theorem d_SlippedStreamsModel_moveAddress_103 : decode b_SlippedStreamsModel_moveAddress 103 = .ok (.ireturn, 1) := by decide +kernel
theorem d_SlippedStreamsModel_moveAddress_104 : decode b_SlippedStreamsModel_moveAddress 104 = .ok (.aload_n 0, 1) := by decide +kernel
theorem d_SlippedStreamsModel_moveAddress_105 : decode b_SlippedStreamsModel_moveAddress 105 = .ok (.iload_n 1, 1) := by decide +kernel
theorem d_SlippedStreamsModel_moveAddress_106 : decode b_SlippedStreamsModel_moveAddress 106 = .ok (.invokevirtual 115, 3) := by decide +kernel
theorem d_SlippedStreamsModel_moveAddress_109 : decode b_SlippedStreamsModel_moveAddress 109 = .ok (.ifCond .eq 78, 3) := by decide +kernel
theorem d_SlippedStreamsModel_moveAddress_112 : decode b_SlippedStreamsModel_moveAddress 112 = .ok (.aload_n 0, 1) := by decide +kernel
theorem d_SlippedStreamsModel_moveAddress_113 : decode b_SlippedStreamsModel_moveAddress 113 = .ok (.iconst 2, 1) := by decide +kernel
theorem d_SlippedStreamsModel_moveAddress_114 : decode b_SlippedStreamsModel_moveAddress 114 = .ok (.iconst 1, 1) := by decide +kernel
theorem d_SlippedStreamsModel_moveAddress_115 : decode b_SlippedStreamsModel_moveAddress 115 = .ok (.invokevirtual 136, 3) := by decide +kernel
theorem d_SlippedStreamsModel_moveAddress_118 : decode b_SlippedStreamsModel_moveAddress 118 = .ok (.ifCond .ne 5, 3) := by decide +kernel
theorem d_SlippedStreamsModel_moveAddress_121 : decode b_SlippedStreamsModel_moveAddress 121 = .ok (.iconst 0, 1) := by decide +kernel
theorem d_SlippedStreamsModel_moveAddress_122 : decode b_SlippedStreamsModel_moveAddress 122 = .ok (.ireturn, 1) := by decide +kernel
theorem d_SlippedStreamsModel_moveAddress_123 : decode b_SlippedStreamsModel_moveAddress 123 = .ok (.iload_n 2, 1) := by decide +kernel
theorem d_SlippedStreamsModel_moveAddress_124 : decode b_SlippedStreamsModel_moveAddress 124 = .ok (.aload_n 0, 1) := by decide +kernel
theorem d_SlippedStreamsModel_moveAddress_125 : decode b_SlippedStreamsModel_moveAddress 125 = .ok (.getfield 26, 3) := by decide +kernel
theorem d_SlippedStreamsModel_moveAddress_128 : decode b_SlippedStreamsModel_moveAddress 128 = .ok (.aload_n 0, 1) := by decide +kernel
theorem d_SlippedStreamsModel_moveAddress_129 : decode b_SlippedStreamsModel_moveAddress 129 = .ok (.getfield 13, 3) := by decide +kernel
theorem d_SlippedStreamsModel_moveAddress_132 : decode b_SlippedStreamsModel_moveAddress 132 = .ok (.iload_n 1, 1) := by decide +kernel
theorem d_SlippedStreamsModel_moveAddress_133 : decode b_SlippedStreamsModel_moveAddress 133 = .ok (.iaload, 1) := by decide +kernel
theorem d_SlippedStreamsModel_moveAddress_134 : decode b_SlippedStreamsModel_moveAddress 134 = .ok (.iaload, 1) := by decide +kernel
theorem d_SlippedStreamsModel_moveAddress_135 : decode b_SlippedStreamsModel_moveAddress 135 = .ok (.aload_n 0, 1) := by decide +kernel
theorem d_SlippedStreamsModel_moveAddress_136 : decode b_SlippedStreamsModel_moveAddress 136 = .ok (.getfield 26, 3) := by decide +kernel
theorem d_SlippedStreamsModel_moveAddress_139 : decode b_SlippedStreamsModel_moveAddress 139 = .ok (.aload_n 0, 1) := by decide +kernel
theorem d_SlippedStreamsModel_moveAddress_140 : decode b_SlippedStreamsModel_moveAddress 140 = .ok (.getfield 16, 3) := by decide +kernel
theorem d_SlippedStreamsModel_moveAddress_143 : decode b_SlippedStreamsModel_moveAddress 143 = .ok (.iload_n 1, 1) := by decide +kernel
theorem d_SlippedStreamsModel_moveAddress_144 : decode b_SlippedStreamsModel_moveAddress 144 = .ok (.iaload, 1) := by decide +kernel
theorem d_SlippedStreamsModel_moveAddress_145 : decode b_SlippedStreamsModel_moveAddress 145 = .ok (.iaload, 1) := by decide +kernel
theorem d_SlippedStreamsModel_moveAddress_146 : decode b_SlippedStreamsModel_moveAddress 146 = .ok (.invokestatic 163, 3) := by decide +kernel
theorem d_SlippedStreamsModel_moveAddress_149 : decode b_SlippedStreamsModel_moveAddress 149 = .ok (.istore_n 3, 1) := by decide +kernel
theorem d_SlippedStreamsModel_moveAddress_150 : decode b_SlippedStreamsModel_moveAddress 150 = .ok (.aload_n 0, 1) := by decide +kernel
theorem d_SlippedStreamsModel_moveAddress_151 : decode b_SlippedStreamsModel_moveAddress 151 = .ok (.iconst 2, 1) := by decide +kernel
theorem d_SlippedStreamsModel_moveAddress_152 : decode b_SlippedStreamsModel_moveAddress 152 = .ok (.iload_n 3, 1) := by decide +kernel
theorem d_SlippedStreamsModel_moveAddress_153 : decode b_SlippedStreamsModel_moveAddress 153 = .ok (.ifCond .eq 7, 3) := by decide +kernel
theorem d_SlippedStreamsModel_moveAddress_156 : decode b_SlippedStreamsModel_moveAddress 156 = .ok (.iconst 1, 1) := by decide +kernel
theorem d_SlippedStreamsModel_moveAddress_157 : decode b_SlippedStreamsModel_moveAddress 157 = .ok (.goto 4, 3) := by decide +kernel
theorem d_SlippedStreamsModel_moveAddress_160 : decode b_SlippedStreamsModel_moveAddress 160 = .ok (.iconst 0, 1) := by decide +kernel
theorem d_SlippedStreamsModel_moveAddress_161 : decode b_SlippedStreamsModel_moveAddress 161 = .ok (.invokevirtual 129, 3) := by decide +kernel
theorem d_SlippedStreamsModel_moveAddress_164 : decode b_SlippedStreamsModel_moveAddress 164 = .ok (.aload_n 0, 1) := by decide +kernel
theorem d_SlippedStreamsModel_moveAddress_165 : decode b_SlippedStreamsModel_moveAddress 165 = .ok (.iconst 0, 1) := by decide +kernel
theorem d_SlippedStreamsModel_moveAddress_166 : decode b_SlippedStreamsModel_moveAddress 166 = .ok (.iload_n 3, 1) := by decide +kernel
theorem d_SlippedStreamsModel_moveAddress_167 : decode b_SlippedStreamsModel_moveAddress 167 = .ok (.ifCond .eq 12, 3) := by decide +kernel
theorem d_SlippedStreamsModel_moveAddress_170 : decode b_SlippedStreamsModel_moveAddress 170 = .ok (.aload_n 0, 1) := by decide +kernel
theorem d_SlippedStreamsModel_moveAddress_171 : decode b_SlippedStreamsModel_moveAddress 171 = .ok (.getfield 19, 3) := by decide +kernel
theorem d_SlippedStreamsModel_moveAddress_174 : decode b_SlippedStreamsModel_moveAddress 174 = .ok (.iload_n 1, 1) := by decide +kernel
theorem d_SlippedStreamsModel_moveAddress_175 : decode b_SlippedStreamsModel_moveAddress 175 = .ok (.iaload, 1) := by decide +kernel
theorem d_SlippedStreamsModel_moveAddress_176 : decode b_SlippedStreamsModel_moveAddress 176 = .ok (.goto 6, 3) := by decide +kernel
theorem d_SlippedStreamsModel_moveAddress_179 : decode b_SlippedStreamsModel_moveAddress 179 = .ok (.iload_n 1, 1) := by decide +kernel
theorem d_SlippedStreamsModel_moveAddress_180 : decode b_SlippedStreamsModel_moveAddress 180 = .ok (.iconst 1, 1) := by decide +kernel
theorem d_SlippedStreamsModel_moveAddress_181 : decode b_SlippedStreamsModel_moveAddress 181 = .ok (.iadd, 1) := by decide +kernel
theorem d_SlippedStreamsModel_moveAddress_182 : decode b_SlippedStreamsModel_moveAddress 182 = .ok (.invokevirtual 139, 3) := by decide +kernel
theorem d_SlippedStreamsModel_moveAddress_185 : decode b_SlippedStreamsModel_moveAddress 185 = .ok (.iconst 1, 1) := by decide +kernel
theorem d_SlippedStreamsModel_moveAddress_186 : decode b_SlippedStreamsModel_moveAddress 186 = .ok (.ireturn, 1) := by decide +kernel
theorem d_SlippedStreamsModel_moveAddress_187 : decode b_SlippedStreamsModel_moveAddress 187 = .ok (.aload_n 0, 1) := by decide +kernel
theorem d_SlippedStreamsModel_moveAddress_188 : decode b_SlippedStreamsModel_moveAddress 188 = .ok (.getfield 26, 3) := by decide +kernel
theorem d_SlippedStreamsModel_moveAddress_191 : decode b_SlippedStreamsModel_moveAddress 191 = .ok (.aload_n 0, 1) := by decide +kernel
theorem d_SlippedStreamsModel_moveAddress_192 : decode b_SlippedStreamsModel_moveAddress 192 = .ok (.getfield 13, 3) := by decide +kernel
