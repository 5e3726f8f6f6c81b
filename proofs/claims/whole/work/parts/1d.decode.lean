theorem d_StoreList_know_8 : decode b_StoreList_know 8 = .ok (.getfield 18, 3) := by decide +kernel
theorem d_StoreList_know_11 : decode b_StoreList_know 11 = .ok (.iload_n 1, 1) := by decide +kernel
theorem d_StoreList_know_12 : decode b_StoreList_know 12 = .ok (.iconst 1, 1) := by decide +kernel
theorem d_StoreList_know_13 : decode b_StoreList_know 13 = .ok (.bastore, 1) := by decide +kernel
theorem d_StoreList_know_14 : decode b_StoreList_know 14 = .ok (.aload_n 0, 1) := by decide +kernel
theorem d_StoreList_know_15 : decode b_StoreList_know 15 = .ok (.getfield 29, 3) := by decide +kernel
theorem d_StoreList_know_18 : decode b_StoreList_know 18 = .ok (.ifCond .le 64, 3) := by decide +kernel
theorem d_StoreList_know_21 : decode b_StoreList_know 21 = .ok (.aload_n 0, 1) := by decide +kernel
theorem d_StoreList_know_22 : decode b_StoreList_know 22 = .ok (.getfield 18, 3) := by decide +kernel
theorem d_StoreList_know_25 : decode b_StoreList_know 25 = .ok (.aload_n 0, 1) := by decide +kernel
theorem d_StoreList_know_26 : decode b_StoreList_know 26 = .ok (.getfield 25, 3) := by decide +kernel
theorem d_StoreList_know_29 : decode b_StoreList_know 29 = .ok (.baload, 1) := by decide +kernel
theorem d_StoreList_know_30 : decode b_StoreList_know 30 = .ok (.ifCond .eq 52, 3) := by decide +kernel
theorem d_StoreList_know_33 : decode b_StoreList_know 33 = .ok (.aload_n 0, 1) := by decide +kernel
theorem d_StoreList_know_34 : decode b_StoreList_know 34 = .ok (.getfield 22, 3) := by decide +kernel
theorem d_StoreList_know_37 : decode b_StoreList_know 37 = .ok (.aload_n 0, 1) := by decide +kernel
theorem d_StoreList_know_38 : decode b_StoreList_know 38 = .ok (.getfield 9, 3) := by decide +kernel
theorem d_StoreList_know_41 : decode b_StoreList_know 41 = .ok (.aload_n 0, 1) := by decide +kernel
theorem d_StoreList_know_42 : decode b_StoreList_know 42 = .ok (.getfield 25, 3) := by decide +kernel
theorem d_StoreList_know_45 : decode b_StoreList_know 45 = .ok (.iaload, 1) := by decide +kernel
theorem d_StoreList_know_46 : decode b_StoreList_know 46 = .ok (.aload_n 0, 1) := by decide +kernel
theorem d_StoreList_know_47 : decode b_StoreList_know 47 = .ok (.getfield 15, 3) := by decide +kernel
theorem d_StoreList_know_50 : decode b_StoreList_know 50 = .ok (.aload_n 0, 1) := by decide +kernel
theorem d_StoreList_know_51 : decode b_StoreList_know 51 = .ok (.getfield 25, 3) := by decide +kernel
theorem d_StoreList_know_54 : decode b_StoreList_know 54 = .ok (.iaload, 1) := by decide +kernel
theorem d_StoreList_know_55 : decode b_StoreList_know 55 = .ok (.iastore, 1) := by decide +kernel
theorem d_StoreList_know_56 : decode b_StoreList_know 56 = .ok (.aload_n 0, 1) := by decide +kernel
theorem d_StoreList_know_57 : decode b_StoreList_know 57 = .ok (.aload_n 0, 1) := by decide +kernel
theorem d_StoreList_know_58 : decode b_StoreList_know 58 = .ok (.getfield 25, 3) := by decide +kernel
theorem d_StoreList_know_61 : decode b_StoreList_know 61 = .ok (.iconst 1, 1) := by decide +kernel
theorem d_StoreList_know_62 : decode b_StoreList_know 62 = .ok (.iadd, 1) := by decide +kernel
theorem d_StoreList_know_63 : decode b_StoreList_know 63 = .ok (.bipush 6, 2) := by decide +kernel
theorem d_StoreList_know_65 : decode b_StoreList_know 65 = .ok (.irem, 1) := by decide +kernel
theorem d_StoreList_know_66 : decode b_StoreList_know 66 = .ok (.putfield 25, 3) := by decide +kernel
theorem d_StoreList_know_69 : decode b_StoreList_know 69 = .ok (.aload_n 0, 1) := by decide +kernel
theorem d_StoreList_know_70 : decode b_StoreList_know 70 = .ok (.dup, 1) := by decide +kernel
theorem d_StoreList_know_71 : decode b_StoreList_know 71 = .ok (.getfield 29, 3) := by decide +kernel
theorem d_StoreList_know_74 : decode b_StoreList_know 74 = .ok (.iconst 1, 1) := by decide +kernel
theorem d_StoreList_know_75 : decode b_StoreList_know 75 = .ok (.isub, 1) := by decide +kernel
theorem d_StoreList_know_76 : decode b_StoreList_know 76 = .ok (.putfield 29, 3) := by decide +kernel
theorem d_StoreList_know_79 : decode b_StoreList_know 79 = .ok (.goto (-65), 3) := by decide +kernel
theorem d_StoreList_know_82 : decode b_StoreList_know 82 = .ok (.return_, 1) := by decide +kernel
theorem d_StoreList_enterWith_0 : decode b_StoreList_enterWith 0 = .ok (.aload_n 0, 1) := by decide +kernel
theorem d_StoreList_enterWith_1 : decode b_StoreList_enterWith 1 = .ok (.aload_n 0, 1) := by decide +kernel
theorem d_StoreList_enterWith_2 : decode b_StoreList_enterWith 2 = .ok (.getfield 29, 3) := by decide +kernel
theorem d_StoreList_enterWith_5 : decode b_StoreList_enterWith 5 = .ok (.invokevirtual 32, 3) := by decide +kernel
theorem d_StoreList_enterWith_8 : decode b_StoreList_enterWith 8 = .ok (.istore_n 3, 1) := by decide +kernel
theorem d_StoreList_enterWith_9 : decode b_StoreList_enterWith 9 = .ok (.aload_n 0, 1) := by decide +kernel
theorem d_StoreList_enterWith_10 : decode b_StoreList_enterWith 10 = .ok (.iload_n 1, 1) := by decide +kernel
theorem d_StoreList_enterWith_11 : decode b_StoreList_enterWith 11 = .ok (.invokevirtual 36, 3) := by decide +kernel
theorem d_StoreList_enterWith_14 : decode b_StoreList_enterWith 14 = .ok (.aload_n 0, 1) := by decide +kernel
theorem d_StoreList_enterWith_15 : decode b_StoreList_enterWith 15 = .ok (.iload_n 3, 1) := by decide +kernel
theorem d_StoreList_enterWith_16 : decode b_StoreList_enterWith 16 = .ok (.iload_n 2, 1) := by decide +kernel
theorem d_StoreList_enterWith_17 : decode b_StoreList_enterWith 17 = .ok (.invokevirtual 40, 3) := by decide +kernel
theorem d_StoreList_enterWith_20 : decode b_StoreList_enterWith 20 = .ok (.return_, 1) := by decide +kernel
theorem d_AddressStream_store_0 : decode b_AddressStream_store 0 = .ok (.aload_n 0, 1) := by decide +kernel
theorem d_AddressStream_store_1 : decode b_AddressStream_store 1 = .ok (.getfield 63, 3) := by decide +kernel
theorem d_AddressStream_store_4 : decode b_AddressStream_store 4 = .ok (.getfield 93, 3) := by decide +kernel
theorem d_AddressStream_store_7 : decode b_AddressStream_store 7 = .ok (.invokevirtual 111, 3) := by decide +kernel
theorem d_AddressStream_store_10 : decode b_AddressStream_store 10 = .ok (.ifCond .eq 5, 3) := by decide +kernel
theorem d_AddressStream_store_13 : decode b_AddressStream_store 13 = .ok (.iconst 0, 1) := by decide +kernel
theorem d_AddressStream_store_14 : decode b_AddressStream_store 14 = .ok (.ireturn, 1) := by decide +kernel
theorem d_AddressStream_store_15 : decode b_AddressStream_store 15 = .ok (.aload_n 0, 1) := by decide +kernel
theorem d_AddressStream_store_16 : decode b_AddressStream_store 16 = .ok (.getfield 29, 3) := by decide +kernel
theorem d_AddressStream_store_19 : decode b_AddressStream_store 19 = .ok (.getfield 105, 3) := by decide +kernel
theorem d_AddressStream_store_22 : decode b_AddressStream_store 22 = .ok (.iload_n 1, 1) := by decide +kernel
theorem d_AddressStream_store_23 : decode b_AddressStream_store 23 = .ok (.iaload, 1) := by decide +kernel
theorem d_AddressStream_store_24 : decode b_AddressStream_store 24 = .ok (.istore_n 2, 1) := by decide +kernel
theorem d_AddressStream_store_25 : decode b_AddressStream_store 25 = .ok (.aload_n 0, 1) := by decide +kernel
theorem d_AddressStream_store_26 : decode b_AddressStream_store 26 = .ok (.getfield 29, 3) := by decide +kernel
theorem d_AddressStream_store_29 : decode b_AddressStream_store 29 = .ok (.iload_n 2, 1) := by decide +kernel
theorem d_AddressStream_store_30 : decode b_AddressStream_store 30 = .ok (.invokevirtual 114, 3) := by decide +kernel
theorem d_AddressStream_store_33 : decode b_AddressStream_store 33 = .ok (.ifCond .eq 27, 3) := by decide +kernel
theorem d_AddressStream_store_36 : decode b_AddressStream_store 36 = .ok (.aload_n 0, 1) := by decide +kernel
theorem d_AddressStream_store_37 : decode b_AddressStream_store 37 = .ok (.getfield 63, 3) := by decide +kernel
theorem d_AddressStream_store_40 : decode b_AddressStream_store 40 = .ok (.getfield 93, 3) := by decide +kernel
theorem d_AddressStream_store_43 : decode b_AddressStream_store 43 = .ok (.aload_n 0, 1) := by decide +kernel
theorem d_AddressStream_store_44 : decode b_AddressStream_store 44 = .ok (.iload_n 1, 1) := by decide +kernel
theorem d_AddressStream_store_45 : decode b_AddressStream_store 45 = .ok (.invokevirtual 89, 3) := by decide +kernel
theorem d_AddressStream_store_48 : decode b_AddressStream_store 48 = .ok (.aload_n 0, 1) := by decide +kernel
theorem d_AddressStream_store_49 : decode b_AddressStream_store 49 = .ok (.getfield 102, 3) := by decide +kernel
theorem d_AddressStream_store_52 : decode b_AddressStream_store 52 = .ok (.iload_n 2, 1) := by decide +kernel
theorem d_AddressStream_store_53 : decode b_AddressStream_store 53 = .ok (.iaload, 1) := by decide +kernel
theorem d_AddressStream_store_54 : decode b_AddressStream_store 54 = .ok (.invokevirtual 117, 3) := by decide +kernel
theorem d_AddressStream_store_57 : decode b_AddressStream_store 57 = .ok (.goto 59, 3) := by decide +kernel
theorem d_AddressStream_store_60 : decode b_AddressStream_store 60 = .ok (.aload_n 0, 1) := by decide +kernel
theorem d_AddressStream_store_61 : decode b_AddressStream_store 61 = .ok (.getfield 63, 3) := by decide +kernel
theorem d_AddressStream_store_64 : decode b_AddressStream_store 64 = .ok (.getfield 121, 3) := by decide +kernel
theorem d_AddressStream_store_67 : decode b_AddressStream_store 67 = .ok (.getfield 124, 3) := by decide +kernel
theorem d_AddressStream_store_70 : decode b_AddressStream_store 70 = .ok (.ifCond .le 31, 3) := by decide +kernel
theorem d_AddressStream_store_73 : decode b_AddressStream_store 73 = .ok (.aload_n 0, 1) := by decide +kernel
theorem d_AddressStream_store_74 : decode b_AddressStream_store 74 = .ok (.getfield 63, 3) := by decide +kernel
theorem d_AddressStream_store_77 : decode b_AddressStream_store 77 = .ok (.getfield 93, 3) := by decide +kernel
theorem d_AddressStream_store_80 : decode b_AddressStream_store 80 = .ok (.aload_n 0, 1) := by decide +kernel
theorem d_AddressStream_store_81 : decode b_AddressStream_store 81 = .ok (.iload_n 1, 1) := by decide +kernel
theorem d_AddressStream_store_82 : decode b_AddressStream_store 82 = .ok (.invokevirtual 89, 3) := by decide +kernel
theorem d_AddressStream_store_85 : decode b_AddressStream_store 85 = .ok (.aload_n 0, 1) := by decide +kernel
theorem d_AddressStream_store_86 : decode b_AddressStream_store 86 = .ok (.getfield 63, 3) := by decide +kernel
theorem d_AddressStream_store_89 : decode b_AddressStream_store 89 = .ok (.getfield 121, 3) := by decide +kernel
theorem d_AddressStream_store_92 : decode b_AddressStream_store 92 = .ok (.invokevirtual 127, 3) := by decide +kernel
theorem d_AddressStream_store_95 : decode b_AddressStream_store 95 = .ok (.invokevirtual 117, 3) := by decide +kernel
theorem d_AddressStream_store_98 : decode b_AddressStream_store 98 = .ok (.goto 18, 3) := by decide +kernel
theorem d_AddressStream_store_101 : decode b_AddressStream_store 101 = .ok (.aload_n 0, 1) := by decide +kernel
theorem d_AddressStream_store_102 : decode b_AddressStream_store 102 = .ok (.getfield 63, 3) := by decide +kernel
theorem d_AddressStream_store_105 : decode b_AddressStream_store 105 = .ok (.getfield 93, 3) := by decide +kernel
theorem d_AddressStream_store_108 : decode b_AddressStream_store 108 = .ok (.aload_n 0, 1) := by decide +kernel
theorem d_AddressStream_store_109 : decode b_AddressStream_store 109 = .ok (.iload_n 1, 1) := by decide +kernel
theorem d_AddressStream_store_110 : decode b_AddressStream_store 110 = .ok (.invokevirtual 89, 3) := by decide +kernel
theorem d_AddressStream_store_113 : decode b_AddressStream_store 113 = .ok (.invokevirtual 131, 3) := by decide +kernel
theorem d_AddressStream_store_116 : decode b_AddressStream_store 116 = .ok (.aload_n 0, 1) := by decide +kernel
theorem d_AddressStream_store_117 : decode b_AddressStream_store 117 = .ok (.iload_n 1, 1) := by decide +kernel
theorem d_AddressStream_store_118 : decode b_AddressStream_store 118 = .ok (.iconst 1, 1) := by decide +kernel
theorem d_AddressStream_store_119 : decode b_AddressStream_store 119 = .ok (.iadd, 1) := by decide +kernel
theorem d_AddressStream_store_120 : decode b_AddressStream_store 120 = .ok (.invokevirtual 86, 3) := by decide +kernel
theorem d_AddressStream_store_123 : decode b_AddressStream_store 123 = .ok (.ireturn, 1) := by decide +kernel
theorem d_Run_combined_0 : decode b_Run_combined 0 = .ok (.aload_n 0, 1) := by decide +kernel
theorem d_Run_combined_1 : decode b_Run_combined 1 = .ok (.getfield 9, 3) := by decide +kernel
theorem d_Run_combined_4 : decode b_Run_combined 4 = .ok (.aload_n 0, 1) := by decide +kernel
theorem d_Run_combined_5 : decode b_Run_combined 5 = .ok (.getfield 15, 3) := by decide +kernel
theorem d_Run_combined_8 : decode b_Run_combined 8 = .ok (.getfield 38, 3) := by decide +kernel
theorem d_Run_combined_11 : decode b_Run_combined 11 = .ok (.iload_n 1, 1) := by decide +kernel
theorem d_Run_combined_12 : decode b_Run_combined 12 = .ok (.iaload, 1) := by decide +kernel
theorem d_Run_combined_13 : decode b_Run_combined 13 = .ok (.iaload, 1) := by decide +kernel
theorem d_Run_combined_14 : decode b_Run_combined 14 = .ok (.istore_n 2, 1) := by decide +kernel
theorem d_Run_combined_15 : decode b_Run_combined 15 = .ok (.aload_n 0, 1) := by decide +kernel
theorem d_Run_combined_16 : decode b_Run_combined 16 = .ok (.getfield 9, 3) := by decide +kernel
theorem d_Run_combined_19 : decode b_Run_combined 19 = .ok (.aload_n 0, 1) := by decide +kernel
theorem d_Run_combined_20 : decode b_Run_combined 20 = .ok (.getfield 15, 3) := by decide +kernel
theorem d_Run_combined_23 : decode b_Run_combined 23 = .ok (.getfield 41, 3) := by decide +kernel
theorem d_Run_combined_26 : decode b_Run_combined 26 = .ok (.iload_n 1, 1) := by decide +kernel
theorem d_Run_combined_27 : decode b_Run_combined 27 = .ok (.iaload, 1) := by decide +kernel
theorem d_Run_combined_28 : decode b_Run_combined 28 = .ok (.iaload, 1) := by decide +kernel
theorem d_Run_combined_29 : decode b_Run_combined 29 = .ok (.istore_n 3, 1) := by decide +kernel
theorem d_Run_combined_30 : decode b_Run_combined 30 = .ok (.aload_n 0, 1) := by decide +kernel
theorem d_Run_combined_31 : decode b_Run_combined 31 = .ok (.getfield 15, 3) := by decide +kernel
theorem d_Run_combined_34 : decode b_Run_combined 34 = .ok (.getfield 47, 3) := by decide +kernel
theorem d_Run_combined_37 : decode b_Run_combined 37 = .ok (.iload_n 1, 1) := by decide +kernel
theorem d_Run_combined_38 : decode b_Run_combined 38 = .ok (.iaload, 1) := by decide +kernel
theorem d_Run_combined_39 : decode b_Run_combined 39 = .ok (.lookupswitch 33 #[(1, 25), (2, 29)], 25) := by decide +kernel
theorem d_Run_combined_64 : decode b_Run_combined 64 = .ok (.iload_n 2, 1) := by decide +kernel
theorem d_Run_combined_65 : decode b_Run_combined 65 = .ok (.iload_n 3, 1) := by decide +kernel
theorem d_Run_combined_66 : decode b_Run_combined 66 = .ok (.iadd, 1) := by decide +kernel
theorem d_Run_combined_67 : decode b_Run_combined 67 = .ok (.ireturn, 1) := by decide +kernel
theorem d_Run_combined_68 : decode b_Run_combined 68 = .ok (.iload_n 2, 1) := by decide +kernel
theorem d_Run_combined_69 : decode b_Run_combined 69 = .ok (.iload_n 3, 1) := by decide +kernel
theorem d_Run_combined_70 : decode b_Run_combined 70 = .ok (.isub, 1) := by decide +kernel
theorem d_Run_combined_71 : decode b_Run_combined 71 = .ok (.ireturn, 1) := by decide +kernel
theorem d_Run_combined_72 : decode b_Run_combined 72 = .ok (.iload_n 2, 1) := by decide +kernel
theorem d_Run_combined_73 : decode b_Run_combined 73 = .ok (.iload_n 3, 1) := by decide +kernel
theorem d_Run_combined_74 : decode b_Run_combined 74 = .ok (.imul, 1) := by decide +kernel
theorem d_Run_combined_75 : decode b_Run_combined 75 = .ok (.ireturn, 1) := by decide +kernel
theorem d_Run_compute_0 : decode b_Run_compute 0 = .ok (.aload_n 0, 1) := by decide +kernel
theorem d_Run_compute_1 : decode b_Run_compute 1 = .ok (.getfield 9, 3) := by decide +kernel
theorem d_Run_compute_4 : decode b_Run_compute 4 = .ok (.aload_n 0, 1) := by decide +kernel
theorem d_Run_compute_5 : decode b_Run_compute 5 = .ok (.getfield 15, 3) := by decide +kernel
theorem d_Run_compute_8 : decode b_Run_compute 8 = .ok (.getfield 44, 3) := by decide +kernel
theorem d_Run_compute_11 : decode b_Run_compute 11 = .ok (.iload_n 1, 1) := by decide +kernel
theorem d_Run_compute_12 : decode b_Run_compute 12 = .ok (.iaload, 1) := by decide +kernel
theorem d_Run_compute_13 : decode b_Run_compute 13 = .ok (.aload_n 0, 1) := by decide +kernel
theorem d_Run_compute_14 : decode b_Run_compute 14 = .ok (.getfield 15, 3) := by decide +kernel
theorem d_Run_compute_17 : decode b_Run_compute 17 = .ok (.getfield 47, 3) := by decide +kernel
theorem d_Run_compute_20 : decode b_Run_compute 20 = .ok (.iload_n 1, 1) := by decide +kernel
theorem d_Run_compute_21 : decode b_Run_compute 21 = .ok (.iaload, 1) := by decide +kernel
theorem d_Run_compute_22 : decode b_Run_compute 22 = .ok (.ifCond .ne 15, 3) := by decide +kernel
theorem d_Run_compute_25 : decode b_Run_compute 25 = .ok (.aload_n 0, 1) := by decide +kernel
theorem d_Run_compute_26 : decode b_Run_compute 26 = .ok (.getfield 15, 3) := by decide +kernel
theorem d_Run_compute_29 : decode b_Run_compute 29 = .ok (.getfield 41, 3) := by decide +kernel
theorem d_Run_compute_32 : decode b_Run_compute 32 = .ok (.iload_n 1, 1) := by decide +kernel
theorem d_Run_compute_33 : decode b_Run_compute 33 = .ok (.iaload, 1) := by decide +kernel
theorem d_Run_compute_34 : decode b_Run_compute 34 = .ok (.goto 8, 3) := by decide +kernel
theorem d_Run_compute_37 : decode b_Run_compute 37 = .ok (.aload_n 0, 1) := by decide +kernel
theorem d_Run_compute_38 : decode b_Run_compute 38 = .ok (.iload_n 1, 1) := by decide +kernel
theorem d_Run_compute_39 : decode b_Run_compute 39 = .ok (.invokevirtual 50, 3) := by decide +kernel
theorem d_Run_compute_42 : decode b_Run_compute 42 = .ok (.iastore, 1) := by decide +kernel
theorem d_Run_compute_43 : decode b_Run_compute 43 = .ok (.return_, 1) := by decide +kernel
theorem d_AddressStream_doOwn_0 : decode b_AddressStream_doOwn 0 = .ok (.aload_n 0, 1) := by decide +kernel
theorem d_AddressStream_doOwn_1 : decode b_AddressStream_doOwn 1 = .ok (.getfield 29, 3) := by decide +kernel
theorem d_AddressStream_doOwn_4 : decode b_AddressStream_doOwn 4 = .ok (.getfield 54, 3) := by decide +kernel
theorem d_AddressStream_doOwn_7 : decode b_AddressStream_doOwn 7 = .ok (.iload_n 1, 1) := by decide +kernel
theorem d_AddressStream_doOwn_8 : decode b_AddressStream_doOwn 8 = .ok (.iaload, 1) := by decide +kernel
theorem d_AddressStream_doOwn_9 : decode b_AddressStream_doOwn 9 = .ok (.tableswitch 78 4 7 #[31, 37, 43, 43], 31) := by decide +kernel
theorem d_AddressStream_doOwn_40 : decode b_AddressStream_doOwn 40 = .ok (.aload_n 0, 1) := by decide +kernel
theorem d_AddressStream_doOwn_41 : decode b_AddressStream_doOwn 41 = .ok (.iload_n 1, 1) := by decide +kernel
theorem d_AddressStream_doOwn_42 : decode b_AddressStream_doOwn 42 = .ok (.invokevirtual 57, 3) := by decide +kernel
theorem d_AddressStream_doOwn_45 : decode b_AddressStream_doOwn 45 = .ok (.ireturn, 1) := by decide +kernel
theorem d_AddressStream_doOwn_46 : decode b_AddressStream_doOwn 46 = .ok (.aload_n 0, 1) := by decide +kernel
theorem d_AddressStream_doOwn_47 : decode b_AddressStream_doOwn 47 = .ok (.iload_n 1, 1) := by decide +kernel
theorem d_AddressStream_doOwn_48 : decode b_AddressStream_doOwn 48 = .ok (.invokevirtual 60, 3) := by decide +kernel
theorem d_AddressStream_doOwn_51 : decode b_AddressStream_doOwn 51 = .ok (.ireturn, 1) := by decide +kernel
theorem d_AddressStream_doOwn_52 : decode b_AddressStream_doOwn 52 = .ok (.aload_n 0, 1) := by decide +kernel
theorem d_AddressStream_doOwn_53 : decode b_AddressStream_doOwn 53 = .ok (.getfield 63, 3) := by decide +kernel
theorem d_AddressStream_doOwn_56 : decode b_AddressStream_doOwn 56 = .ok (.getfield 67, 3) := by decide +kernel
theorem d_AddressStream_doOwn_59 : decode b_AddressStream_doOwn 59 = .ok (.iconst 1, 1) := by decide +kernel
theorem d_AddressStream_doOwn_60 : decode b_AddressStream_doOwn 60 = .ok (.invokevirtual 73, 3) := by decide +kernel
theorem d_AddressStream_doOwn_63 : decode b_AddressStream_doOwn 63 = .ok (.ifCond .eq 22, 3) := by decide +kernel
theorem d_AddressStream_doOwn_66 : decode b_AddressStream_doOwn 66 = .ok (.aload_n 0, 1) := by decide +kernel
theorem d_AddressStream_doOwn_67 : decode b_AddressStream_doOwn 67 = .ok (.iload_n 1, 1) := by decide +kernel
theorem d_AddressStream_doOwn_68 : decode b_AddressStream_doOwn 68 = .ok (.aload_n 0, 1) := by decide +kernel
theorem d_AddressStream_doOwn_69 : decode b_AddressStream_doOwn 69 = .ok (.getfield 63, 3) := by decide +kernel
theorem d_AddressStream_doOwn_72 : decode b_AddressStream_doOwn 72 = .ok (.getfield 67, 3) := by decide +kernel
theorem d_AddressStream_doOwn_75 : decode b_AddressStream_doOwn 75 = .ok (.invokevirtual 78, 3) := by decide +kernel
theorem d_AddressStream_doOwn_78 : decode b_AddressStream_doOwn 78 = .ok (.ifCond .eq 7, 3) := by decide +kernel
theorem d_AddressStream_doOwn_81 : decode b_AddressStream_doOwn 81 = .ok (.iconst 1, 1) := by decide +kernel
theorem d_AddressStream_doOwn_82 : decode b_AddressStream_doOwn 82 = .ok (.goto 4, 3) := by decide +kernel
theorem d_AddressStream_doOwn_85 : decode b_AddressStream_doOwn 85 = .ok (.iconst 0, 1) := by decide +kernel
theorem d_AddressStream_doOwn_86 : decode b_AddressStream_doOwn 86 = .ok (.ireturn, 1) := by decide +kernel
theorem d_AddressStream_doOwn_87 : decode b_AddressStream_doOwn 87 = .ok (.aload_n 0, 1) := by decide +kernel
theorem d_AddressStream_doOwn_88 : decode b_AddressStream_doOwn 88 = .ok (.iload_n 1, 1) := by decide +kernel
theorem d_AddressStream_doOwn_89 : decode b_AddressStream_doOwn 89 = .ok (.invokevirtual 82, 3) := by decide +kernel
theorem d_AddressStream_doOwn_92 : decode b_AddressStream_doOwn 92 = .ok (.aload_n 0, 1) := by decide +kernel
theorem d_AddressStream_doOwn_93 : decode b_AddressStream_doOwn 93 = .ok (.iload_n 1, 1) := by decide +kernel
theorem d_AddressStream_doOwn_94 : decode b_AddressStream_doOwn 94 = .ok (.iconst 1, 1) := by decide +kernel
theorem d_AddressStream_doOwn_95 : decode b_AddressStream_doOwn 95 = .ok (.iadd, 1) := by decide +kernel
theorem d_AddressStream_doOwn_96 : decode b_AddressStream_doOwn 96 = .ok (.invokevirtual 86, 3) := by decide +kernel
theorem d_AddressStream_doOwn_99 : decode b_AddressStream_doOwn 99 = .ok (.ireturn, 1) := by decide +kernel
theorem d_AddressStream_step_0 : decode b_AddressStream_step 0 = .ok (.aload_n 0, 1) := by decide +kernel
theorem d_AddressStream_step_1 : decode b_AddressStream_step 1 = .ok (.invokevirtual 25, 3) := by decide +kernel
theorem d_AddressStream_step_4 : decode b_AddressStream_step 4 = .ok (.ifCond .eq 5, 3) := by decide +kernel
theorem d_AddressStream_step_7 : decode b_AddressStream_step 7 = .ok (.iconst 0, 1) := by decide +kernel
theorem d_AddressStream_step_8 : decode b_AddressStream_step 8 = .ok (.ireturn, 1) := by decide +kernel
theorem d_AddressStream_step_9 : decode b_AddressStream_step 9 = .ok (.aload_n 0, 1) := by decide +kernel
theorem d_AddressStream_step_10 : decode b_AddressStream_step 10 = .ok (.getfield 29, 3) := by decide +kernel
theorem d_AddressStream_step_13 : decode b_AddressStream_step 13 = .ok (.getfield 33, 3) := by decide +kernel
theorem d_AddressStream_step_16 : decode b_AddressStream_step 16 = .ok (.aload_n 0, 1) := by decide +kernel
theorem d_AddressStream_step_17 : decode b_AddressStream_step 17 = .ok (.getfield 37, 3) := by decide +kernel
theorem d_AddressStream_step_20 : decode b_AddressStream_step 20 = .ok (.iaload, 1) := by decide +kernel
theorem d_AddressStream_step_21 : decode b_AddressStream_step 21 = .ok (.ifCond .ne 14, 3) := by decide +kernel
theorem d_AddressStream_step_24 : decode b_AddressStream_step 24 = .ok (.aload_n 0, 1) := by decide +kernel
theorem d_AddressStream_step_25 : decode b_AddressStream_step 25 = .ok (.aload_n 0, 1) := by decide +kernel
theorem d_AddressStream_step_26 : decode b_AddressStream_step 26 = .ok (.getfield 37, 3) := by decide +kernel
theorem d_AddressStream_step_29 : decode b_AddressStream_step 29 = .ok (.invokevirtual 41, 3) := by decide +kernel
theorem d_AddressStream_step_32 : decode b_AddressStream_step 32 = .ok (.goto 11, 3) := by decide +kernel
theorem d_AddressStream_step_35 : decode b_AddressStream_step 35 = .ok (.aload_n 0, 1) := by decide +kernel
theorem d_AddressStream_step_36 : decode b_AddressStream_step 36 = .ok (.aload_n 0, 1) := by decide +kernel
theorem d_AddressStream_step_37 : decode b_AddressStream_step 37 = .ok (.getfield 37, 3) := by decide +kernel
theorem d_AddressStream_step_40 : decode b_AddressStream_step 40 = .ok (.invokevirtual 45, 3) := by decide +kernel
theorem d_AddressStream_step_43 : decode b_AddressStream_step 43 = .ok (.ireturn, 1) := by decide +kernel
theorem d_Run_advance_0 : decode b_Run_advance 0 = .ok (.iconst 0, 1) := by decide +kernel
theorem d_Run_advance_1 : decode b_Run_advance 1 = .ok (.istore_n 2, 1) := by decide +kernel
theorem d_Run_advance_2 : decode b_Run_advance 2 = .ok (.iload_n 2, 1) := by decide +kernel
theorem d_Run_advance_3 : decode b_Run_advance 3 = .ok (.iload_n 1, 1) := by decide +kernel
theorem d_Run_advance_4 : decode b_Run_advance 4 = .ok (.if_icmp .ge 16, 3) := by decide +kernel
theorem d_Run_advance_7 : decode b_Run_advance 7 = .ok (.aload_n 0, 1) := by decide +kernel
theorem d_Run_advance_8 : decode b_Run_advance 8 = .ok (.invokevirtual 19, 3) := by decide +kernel
theorem d_Run_advance_11 : decode b_Run_advance 11 = .ok (.ifCond .eq 9, 3) := by decide +kernel
theorem d_Run_advance_14 : decode b_Run_advance 14 = .ok (.iinc 2 1, 3) := by decide +kernel
theorem d_Run_advance_17 : decode b_Run_advance 17 = .ok (.goto (-15), 3) := by decide +kernel
theorem d_Run_advance_20 : decode b_Run_advance 20 = .ok (.iload_n 2, 1) := by decide +kernel
theorem d_Run_advance_21 : decode b_Run_advance 21 = .ok (.ireturn, 1) := by decide +kernel
theorem d_SlippedStreams_noteLoss_0 : decode b_SlippedStreams_noteLoss 0 = .ok (.aload_n 0, 1) := by decide +kernel
theorem d_SlippedStreams_noteLoss_1 : decode b_SlippedStreams_noteLoss 1 = .ok (.getfield 32, 3) := by decide +kernel
theorem d_SlippedStreams_noteLoss_4 : decode b_SlippedStreams_noteLoss 4 = .ok (.invokevirtual 174, 3) := by decide +kernel
theorem d_SlippedStreams_noteLoss_7 : decode b_SlippedStreams_noteLoss 7 = .ok (.ifCond .eq 13, 3) := by decide +kernel
theorem d_SlippedStreams_noteLoss_10 : decode b_SlippedStreams_noteLoss 10 = .ok (.aload_n 0, 1) := by decide +kernel
theorem d_SlippedStreams_noteLoss_11 : decode b_SlippedStreams_noteLoss 11 = .ok (.dup, 1) := by decide +kernel
theorem d_SlippedStreams_noteLoss_12 : decode b_SlippedStreams_noteLoss 12 = .ok (.getfield 149, 3) := by decide +kernel
theorem d_SlippedStreams_noteLoss_15 : decode b_SlippedStreams_noteLoss 15 = .ok (.iconst 1, 1) := by decide +kernel
theorem d_SlippedStreams_noteLoss_16 : decode b_SlippedStreams_noteLoss 16 = .ok (.iadd, 1) := by decide +kernel
theorem d_SlippedStreams_noteLoss_17 : decode b_SlippedStreams_noteLoss 17 = .ok (.putfield 149, 3) := by decide +kernel
theorem d_SlippedStreams_noteLoss_20 : decode b_SlippedStreams_noteLoss 20 = .ok (.return_, 1) := by decide +kernel
theorem d_SlippedStreams_address_0 : decode b_SlippedStreams_address 0 = .ok (.iload_n 1, 1) := by decide +kernel
theorem d_SlippedStreams_address_1 : decode b_SlippedStreams_address 1 = .ok (.invokestatic 82, 3) := by decide +kernel
theorem d_SlippedStreams_address_4 : decode b_SlippedStreams_address 4 = .ok (.ifCond .ne 5, 3) := by decide +kernel
theorem d_SlippedStreams_address_7 : decode b_SlippedStreams_address 7 = .ok (.iconst (-1), 1) := by decide +kernel
theorem d_SlippedStreams_address_8 : decode b_SlippedStreams_address 8 = .ok (.ireturn, 1) := by decide +kernel
theorem d_SlippedStreams_address_9 : decode b_SlippedStreams_address 9 = .ok (.aload_n 0, 1) := by decide +kernel
theorem d_SlippedStreams_address_10 : decode b_SlippedStreams_address 10 = .ok (.getfield 32, 3) := by decide +kernel
theorem d_SlippedStreams_address_13 : decode b_SlippedStreams_address 13 = .ok (.iload_n 1, 1) := by decide +kernel
theorem d_SlippedStreams_address_14 : decode b_SlippedStreams_address 14 = .ok (.invokevirtual 86, 3) := by decide +kernel
theorem d_SlippedStreams_address_17 : decode b_SlippedStreams_address 17 = .ok (.istore_n 2, 1) := by decide +kernel
theorem d_SlippedStreams_address_18 : decode b_SlippedStreams_address 18 = .ok (.iload_n 2, 1) := by decide +kernel
theorem d_SlippedStreams_address_19 : decode b_SlippedStreams_address 19 = .ok (.iload_n 1, 1) := by decide +kernel
theorem d_SlippedStreams_address_20 : decode b_SlippedStreams_address 20 = .ok (.if_icmp .ge 7, 3) := by decide +kernel
theorem d_SlippedStreams_address_23 : decode b_SlippedStreams_address 23 = .ok (.aload_n 0, 1) := by decide +kernel
theorem d_SlippedStreams_address_24 : decode b_SlippedStreams_address 24 = .ok (.invokevirtual 89, 3) := by decide +kernel
theorem d_SlippedStreams_address_27 : decode b_SlippedStreams_address 27 = .ok (.iload_n 2, 1) := by decide +kernel
theorem d_SlippedStreams_address_28 : decode b_SlippedStreams_address 28 = .ok (.ireturn, 1) := by decide +kernel
theorem d_StoreList_give_0 : decode b_StoreList_give 0 = .ok (.aload_n 0, 1) := by decide +kernel
theorem d_StoreList_give_1 : decode b_StoreList_give 1 = .ok (.getfield 29, 3) := by decide +kernel
theorem d_StoreList_give_4 : decode b_StoreList_give 4 = .ok (.ifCond .ne 5, 3) := by decide +kernel
theorem d_StoreList_give_7 : decode b_StoreList_give 7 = .ok (.iconst 0, 1) := by decide +kernel
theorem d_StoreList_give_8 : decode b_StoreList_give 8 = .ok (.ireturn, 1) := by decide +kernel
theorem d_StoreList_give_9 : decode b_StoreList_give 9 = .ok (.aload_n 0, 1) := by decide +kernel
theorem d_StoreList_give_10 : decode b_StoreList_give 10 = .ok (.aload_n 0, 1) := by decide +kernel
theorem d_StoreList_give_11 : decode b_StoreList_give 11 = .ok (.getfield 25, 3) := by decide +kernel
theorem d_StoreList_give_14 : decode b_StoreList_give 14 = .ok (.iload_n 1, 1) := by decide +kernel
theorem d_StoreList_give_15 : decode b_StoreList_give 15 = .ok (.invokevirtual 40, 3) := by decide +kernel
theorem d_StoreList_give_18 : decode b_StoreList_give 18 = .ok (.iconst 1, 1) := by decide +kernel
theorem d_StoreList_give_19 : decode b_StoreList_give 19 = .ok (.ireturn, 1) := by decide +kernel
theorem d_ValueStream_giveStored_0 : decode b_ValueStream_giveStored 0 = .ok (.aload_n 0, 1) := by decide +kernel
theorem d_ValueStream_giveStored_1 : decode b_ValueStream_giveStored 1 = .ok (.getfield 86, 3) := by decide +kernel
theorem d_ValueStream_giveStored_4 : decode b_ValueStream_giveStored 4 = .ok (.aload_n 0, 1) := by decide +kernel
theorem d_ValueStream_giveStored_5 : decode b_ValueStream_giveStored 5 = .ok (.getfield 36, 3) := by decide +kernel
theorem d_ValueStream_giveStored_8 : decode b_ValueStream_giveStored 8 = .ok (.getfield 89, 3) := by decide +kernel
theorem d_ValueStream_giveStored_11 : decode b_ValueStream_giveStored 11 = .ok (.iload_n 1, 1) := by decide +kernel
theorem d_ValueStream_giveStored_12 : decode b_ValueStream_giveStored 12 = .ok (.iaload, 1) := by decide +kernel
theorem d_ValueStream_giveStored_13 : decode b_ValueStream_giveStored 13 = .ok (.iaload, 1) := by decide +kernel
theorem d_ValueStream_giveStored_14 : decode b_ValueStream_giveStored 14 = .ok (.istore_n 2, 1) := by decide +kernel
theorem d_ValueStream_giveStored_15 : decode b_ValueStream_giveStored 15 = .ok (.aload_n 0, 1) := by decide +kernel
theorem d_ValueStream_giveStored_16 : decode b_ValueStream_giveStored 16 = .ok (.getfield 61, 3) := by decide +kernel
theorem d_ValueStream_giveStored_19 : decode b_ValueStream_giveStored 19 = .ok (.getfield 130, 3) := by decide +kernel
theorem d_ValueStream_giveStored_22 : decode b_ValueStream_giveStored 22 = .ok (.iload_n 2, 1) := by decide +kernel
theorem d_ValueStream_giveStored_23 : decode b_ValueStream_giveStored 23 = .ok (.invokevirtual 134, 3) := by decide +kernel
theorem d_ValueStream_giveStored_26 : decode b_ValueStream_giveStored 26 = .ok (.ifCond .ne 30, 3) := by decide +kernel
theorem d_ValueStream_giveStored_29 : decode b_ValueStream_giveStored 29 = .ok (.aload_n 0, 1) := by decide +kernel
theorem d_ValueStream_giveStored_30 : decode b_ValueStream_giveStored 30 = .ok (.getfield 61, 3) := by decide +kernel
theorem d_ValueStream_giveStored_33 : decode b_ValueStream_giveStored 33 = .ok (.getfield 139, 3) := by decide +kernel
theorem d_ValueStream_giveStored_36 : decode b_ValueStream_giveStored 36 = .ok (.iconst 1, 1) := by decide +kernel
theorem d_ValueStream_giveStored_37 : decode b_ValueStream_giveStored 37 = .ok (.invokevirtual 108, 3) := by decide +kernel
theorem d_ValueStream_giveStored_40 : decode b_ValueStream_giveStored 40 = .ok (.ifCond .ne 5, 3) := by decide +kernel
theorem d_ValueStream_giveStored_43 : decode b_ValueStream_giveStored 43 = .ok (.iconst 0, 1) := by decide +kernel
theorem d_ValueStream_giveStored_44 : decode b_ValueStream_giveStored 44 = .ok (.ireturn, 1) := by decide +kernel
theorem d_ValueStream_giveStored_45 : decode b_ValueStream_giveStored 45 = .ok (.aload_n 0, 1) := by decide +kernel
theorem d_ValueStream_giveStored_46 : decode b_ValueStream_giveStored 46 = .ok (.getfield 61, 3) := by decide +kernel
theorem d_ValueStream_giveStored_49 : decode b_ValueStream_giveStored 49 = .ok (.getfield 139, 3) := by decide +kernel
theorem d_ValueStream_giveStored_52 : decode b_ValueStream_giveStored 52 = .ok (.iload_n 2, 1) := by decide +kernel
theorem d_ValueStream_giveStored_53 : decode b_ValueStream_giveStored 53 = .ok (.invokevirtual 142, 3) := by decide +kernel
theorem d_ValueStream_giveStored_56 : decode b_ValueStream_giveStored 56 = .ok (.aload_n 0, 1) := by decide +kernel
theorem d_ValueStream_giveStored_57 : decode b_ValueStream_giveStored 57 = .ok (.iload_n 1, 1) := by decide +kernel
theorem d_ValueStream_giveStored_58 : decode b_ValueStream_giveStored 58 = .ok (.iconst 1, 1) := by decide +kernel
theorem d_ValueStream_giveStored_59 : decode b_ValueStream_giveStored 59 = .ok (.iadd, 1) := by decide +kernel
theorem d_ValueStream_giveStored_60 : decode b_ValueStream_giveStored 60 = .ok (.invokevirtual 96, 3) := by decide +kernel
theorem d_ValueStream_giveStored_63 : decode b_ValueStream_giveStored 63 = .ok (.ireturn, 1) := by decide +kernel
theorem d_ValueStream_receive_0 : decode b_ValueStream_receive 0 = .ok (.iload_n 1, 1) := by decide +kernel
theorem d_ValueStream_receive_1 : decode b_ValueStream_receive 1 = .ok (.iconst (-1), 1) := by decide +kernel
theorem d_ValueStream_receive_2 : decode b_ValueStream_receive 2 = .ok (.if_icmp .eq 19, 3) := by decide +kernel
theorem d_ValueStream_receive_5 : decode b_ValueStream_receive 5 = .ok (.aload_n 0, 1) := by decide +kernel
theorem d_ValueStream_receive_6 : decode b_ValueStream_receive 6 = .ok (.getfield 86, 3) := by decide +kernel
theorem d_ValueStream_receive_9 : decode b_ValueStream_receive 9 = .ok (.iload_n 1, 1) := by decide +kernel
theorem d_ValueStream_receive_10 : decode b_ValueStream_receive 10 = .ok (.aload_n 0, 1) := by decide +kernel
theorem d_ValueStream_receive_11 : decode b_ValueStream_receive 11 = .ok (.getfield 61, 3) := by decide +kernel
theorem d_ValueStream_receive_14 : decode b_ValueStream_receive 14 = .ok (.getfield 99, 3) := by decide +kernel
theorem d_ValueStream_receive_17 : decode b_ValueStream_receive 17 = .ok (.invokevirtual 92, 3) := by decide +kernel
theorem d_ValueStream_receive_20 : decode b_ValueStream_receive 20 = .ok (.iastore, 1) := by decide +kernel
theorem d_ValueStream_receive_21 : decode b_ValueStream_receive 21 = .ok (.return_, 1) := by decide +kernel
theorem d_Written_write_0 : decode b_Written_write 0 = .ok (.aload_n 0, 1) := by decide +kernel
theorem d_Written_write_1 : decode b_Written_write 1 = .ok (.getfield 15, 3) := by decide +kernel
theorem d_Written_write_4 : decode b_Written_write 4 = .ok (.bipush 64, 2) := by decide +kernel
theorem d_Written_write_6 : decode b_Written_write 6 = .ok (.if_icmp .ge 13, 3) := by decide +kernel
theorem d_Written_write_9 : decode b_Written_write 9 = .ok (.aload_n 0, 1) := by decide +kernel
theorem d_Written_write_10 : decode b_Written_write 10 = .ok (.getfield 9, 3) := by decide +kernel
theorem d_Written_write_13 : decode b_Written_write 13 = .ok (.aload_n 0, 1) := by decide +kernel
theorem d_Written_write_14 : decode b_Written_write 14 = .ok (.getfield 15, 3) := by decide +kernel
theorem d_Written_write_17 : decode b_Written_write 17 = .ok (.iload_n 1, 1) := by decide +kernel
theorem d_Written_write_18 : decode b_Written_write 18 = .ok (.iastore, 1) := by decide +kernel
theorem d_Written_write_19 : decode b_Written_write 19 = .ok (.aload_n 0, 1) := by decide +kernel
theorem d_Written_write_20 : decode b_Written_write 20 = .ok (.dup, 1) := by decide +kernel
theorem d_Written_write_21 : decode b_Written_write 21 = .ok (.getfield 15, 3) := by decide +kernel
theorem d_Written_write_24 : decode b_Written_write 24 = .ok (.iconst 1, 1) := by decide +kernel
theorem d_Written_write_25 : decode b_Written_write 25 = .ok (.iadd, 1) := by decide +kernel
theorem d_Written_write_26 : decode b_Written_write 26 = .ok (.putfield 15, 3) := by decide +kernel
theorem d_Written_write_29 : decode b_Written_write 29 = .ok (.return_, 1) := by decide +kernel
theorem d_ValueStream_doOwn_0 : decode b_ValueStream_doOwn 0 = .ok (.aload_n 0, 1) := by decide +kernel
theorem d_ValueStream_doOwn_1 : decode b_ValueStream_doOwn 1 = .ok (.getfield 36, 3) := by decide +kernel
theorem d_ValueStream_doOwn_4 : decode b_ValueStream_doOwn 4 = .ok (.iload_n 1, 1) := by decide +kernel
theorem d_ValueStream_doOwn_5 : decode b_ValueStream_doOwn 5 = .ok (.invokevirtual 58, 3) := by decide +kernel
theorem d_ValueStream_doOwn_8 : decode b_ValueStream_doOwn 8 = .ok (.istore_n 2, 1) := by decide +kernel
theorem d_ValueStream_doOwn_9 : decode b_ValueStream_doOwn 9 = .ok (.aload_n 0, 1) := by decide +kernel
theorem d_ValueStream_doOwn_10 : decode b_ValueStream_doOwn 10 = .ok (.getfield 61, 3) := by decide +kernel
theorem d_ValueStream_doOwn_13 : decode b_ValueStream_doOwn 13 = .ok (.getfield 99, 3) := by decide +kernel
theorem d_ValueStream_doOwn_16 : decode b_ValueStream_doOwn 16 = .ok (.getfield 81, 3) := by decide +kernel
theorem d_ValueStream_doOwn_19 : decode b_ValueStream_doOwn 19 = .ok (.aload_n 0, 1) := by decide +kernel
theorem d_ValueStream_doOwn_20 : decode b_ValueStream_doOwn 20 = .ok (.getfield 36, 3) := by decide +kernel
theorem d_ValueStream_doOwn_23 : decode b_ValueStream_doOwn 23 = .ok (.getfield 102, 3) := by decide +kernel
theorem d_ValueStream_doOwn_26 : decode b_ValueStream_doOwn 26 = .ok (.iload_n 1, 1) := by decide +kernel
theorem d_ValueStream_doOwn_27 : decode b_ValueStream_doOwn 27 = .ok (.iaload, 1) := by decide +kernel
theorem d_ValueStream_doOwn_28 : decode b_ValueStream_doOwn 28 = .ok (.if_icmp .lt 21, 3) := by decide +kernel
theorem d_ValueStream_doOwn_31 : decode b_ValueStream_doOwn 31 = .ok (.iload_n 2, 1) := by decide +kernel
theorem d_ValueStream_doOwn_32 : decode b_ValueStream_doOwn 32 = .ok (.ifCond .eq 19, 3) := by decide +kernel
theorem d_ValueStream_doOwn_35 : decode b_ValueStream_doOwn 35 = .ok (.aload_n 0, 1) := by decide +kernel
theorem d_ValueStream_doOwn_36 : decode b_ValueStream_doOwn 36 = .ok (.getfield 61, 3) := by decide +kernel
theorem d_ValueStream_doOwn_39 : decode b_ValueStream_doOwn 39 = .ok (.getfield 105, 3) := by decide +kernel
theorem d_ValueStream_doOwn_42 : decode b_ValueStream_doOwn 42 = .ok (.iconst 1, 1) := by decide +kernel
theorem d_ValueStream_doOwn_43 : decode b_ValueStream_doOwn 43 = .ok (.invokevirtual 108, 3) := by decide +kernel
theorem d_ValueStream_doOwn_46 : decode b_ValueStream_doOwn 46 = .ok (.ifCond .ne 5, 3) := by decide +kernel
theorem d_ValueStream_doOwn_49 : decode b_ValueStream_doOwn 49 = .ok (.iconst 0, 1) := by decide +kernel
theorem d_ValueStream_doOwn_50 : decode b_ValueStream_doOwn 50 = .ok (.ireturn, 1) := by decide +kernel
theorem d_ValueStream_doOwn_51 : decode b_ValueStream_doOwn 51 = .ok (.aload_n 0, 1) := by decide +kernel
theorem d_ValueStream_doOwn_52 : decode b_ValueStream_doOwn 52 = .ok (.aload_n 0, 1) := by decide +kernel
theorem d_ValueStream_doOwn_53 : decode b_ValueStream_doOwn 53 = .ok (.getfield 36, 3) := by decide +kernel
theorem d_ValueStream_doOwn_56 : decode b_ValueStream_doOwn 56 = .ok (.getfield 111, 3) := by decide +kernel
theorem d_ValueStream_doOwn_59 : decode b_ValueStream_doOwn 59 = .ok (.iload_n 1, 1) := by decide +kernel
theorem d_ValueStream_doOwn_60 : decode b_ValueStream_doOwn 60 = .ok (.iaload, 1) := by decide +kernel
theorem d_ValueStream_doOwn_61 : decode b_ValueStream_doOwn 61 = .ok (.invokevirtual 114, 3) := by decide +kernel
theorem d_ValueStream_doOwn_64 : decode b_ValueStream_doOwn 64 = .ok (.aload_n 0, 1) := by decide +kernel
theorem d_ValueStream_doOwn_65 : decode b_ValueStream_doOwn 65 = .ok (.aload_n 0, 1) := by decide +kernel
theorem d_ValueStream_doOwn_66 : decode b_ValueStream_doOwn 66 = .ok (.getfield 36, 3) := by decide +kernel
theorem d_ValueStream_doOwn_69 : decode b_ValueStream_doOwn 69 = .ok (.getfield 118, 3) := by decide +kernel
theorem d_ValueStream_doOwn_72 : decode b_ValueStream_doOwn 72 = .ok (.iload_n 1, 1) := by decide +kernel
theorem d_ValueStream_doOwn_73 : decode b_ValueStream_doOwn 73 = .ok (.iaload, 1) := by decide +kernel
theorem d_ValueStream_doOwn_74 : decode b_ValueStream_doOwn 74 = .ok (.invokevirtual 114, 3) := by decide +kernel
theorem d_ValueStream_doOwn_77 : decode b_ValueStream_doOwn 77 = .ok (.iload_n 2, 1) := by decide +kernel
theorem d_ValueStream_doOwn_78 : decode b_ValueStream_doOwn 78 = .ok (.ifCond .eq 16, 3) := by decide +kernel
theorem d_ValueStream_doOwn_81 : decode b_ValueStream_doOwn 81 = .ok (.aload_n 0, 1) := by decide +kernel
theorem d_ValueStream_doOwn_82 : decode b_ValueStream_doOwn 82 = .ok (.iload_n 1, 1) := by decide +kernel
theorem d_ValueStream_doOwn_83 : decode b_ValueStream_doOwn 83 = .ok (.aload_n 0, 1) := by decide +kernel
theorem d_ValueStream_doOwn_84 : decode b_ValueStream_doOwn 84 = .ok (.getfield 61, 3) := by decide +kernel
theorem d_ValueStream_doOwn_87 : decode b_ValueStream_doOwn 87 = .ok (.getfield 105, 3) := by decide +kernel
theorem d_ValueStream_doOwn_90 : decode b_ValueStream_doOwn 90 = .ok (.invokevirtual 121, 3) := by decide +kernel
theorem d_ValueStream_doOwn_93 : decode b_ValueStream_doOwn 93 = .ok (.ireturn, 1) := by decide +kernel
