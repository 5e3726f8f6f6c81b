theorem d_ValueStream_doOwn_94 : decode b_ValueStream_doOwn 94 = .ok (.aload_n 0, 1) := by decide +kernel
theorem d_ValueStream_doOwn_95 : decode b_ValueStream_doOwn 95 = .ok (.getfield 36, 3) := by decide +kernel
theorem d_ValueStream_doOwn_98 : decode b_ValueStream_doOwn 98 = .ok (.getfield 48, 3) := by decide +kernel
theorem d_ValueStream_doOwn_101 : decode b_ValueStream_doOwn 101 = .ok (.iload_n 1, 1) := by decide +kernel
theorem d_ValueStream_doOwn_102 : decode b_ValueStream_doOwn 102 = .ok (.iaload, 1) := by decide +kernel
theorem d_ValueStream_doOwn_103 : decode b_ValueStream_doOwn 103 = .ok (.bipush 8, 2) := by decide +kernel
theorem d_ValueStream_doOwn_105 : decode b_ValueStream_doOwn 105 = .ok (.if_icmp .ne 27, 3) := by decide +kernel
theorem d_ValueStream_doOwn_108 : decode b_ValueStream_doOwn 108 = .ok (.aload_n 0, 1) := by decide +kernel
theorem d_ValueStream_doOwn_109 : decode b_ValueStream_doOwn 109 = .ok (.getfield 20, 3) := by decide +kernel
theorem d_ValueStream_doOwn_112 : decode b_ValueStream_doOwn 112 = .ok (.aload_n 0, 1) := by decide +kernel
theorem d_ValueStream_doOwn_113 : decode b_ValueStream_doOwn 113 = .ok (.getfield 86, 3) := by decide +kernel
theorem d_ValueStream_doOwn_116 : decode b_ValueStream_doOwn 116 = .ok (.aload_n 0, 1) := by decide +kernel
theorem d_ValueStream_doOwn_117 : decode b_ValueStream_doOwn 117 = .ok (.getfield 36, 3) := by decide +kernel
theorem d_ValueStream_doOwn_120 : decode b_ValueStream_doOwn 120 = .ok (.getfield 89, 3) := by decide +kernel
theorem d_ValueStream_doOwn_123 : decode b_ValueStream_doOwn 123 = .ok (.iload_n 1, 1) := by decide +kernel
theorem d_ValueStream_doOwn_124 : decode b_ValueStream_doOwn 124 = .ok (.iaload, 1) := by decide +kernel
theorem d_ValueStream_doOwn_125 : decode b_ValueStream_doOwn 125 = .ok (.iaload, 1) := by decide +kernel
theorem d_ValueStream_doOwn_126 : decode b_ValueStream_doOwn 126 = .ok (.invokevirtual 124, 3) := by decide +kernel
theorem d_ValueStream_doOwn_129 : decode b_ValueStream_doOwn 129 = .ok (.goto 8, 3) := by decide +kernel
theorem d_ValueStream_doOwn_132 : decode b_ValueStream_doOwn 132 = .ok (.aload_n 0, 1) := by decide +kernel
theorem d_ValueStream_doOwn_133 : decode b_ValueStream_doOwn 133 = .ok (.iload_n 1, 1) := by decide +kernel
theorem d_ValueStream_doOwn_134 : decode b_ValueStream_doOwn 134 = .ok (.invokevirtual 127, 3) := by decide +kernel
theorem d_ValueStream_doOwn_137 : decode b_ValueStream_doOwn 137 = .ok (.aload_n 0, 1) := by decide +kernel
theorem d_ValueStream_doOwn_138 : decode b_ValueStream_doOwn 138 = .ok (.iload_n 1, 1) := by decide +kernel
theorem d_ValueStream_doOwn_139 : decode b_ValueStream_doOwn 139 = .ok (.iconst 1, 1) := by decide +kernel
theorem d_ValueStream_doOwn_140 : decode b_ValueStream_doOwn 140 = .ok (.iadd, 1) := by decide +kernel
theorem d_ValueStream_doOwn_141 : decode b_ValueStream_doOwn 141 = .ok (.invokevirtual 96, 3) := by decide +kernel
theorem d_ValueStream_doOwn_144 : decode b_ValueStream_doOwn 144 = .ok (.ireturn, 1) := by decide +kernel
theorem d_ValueStream_receiveLoad_0 : decode b_ValueStream_receiveLoad 0 = .ok (.aload_n 0, 1) := by decide +kernel
theorem d_ValueStream_receiveLoad_1 : decode b_ValueStream_receiveLoad 1 = .ok (.getfield 61, 3) := by decide +kernel
theorem d_ValueStream_receiveLoad_4 : decode b_ValueStream_receiveLoad 4 = .ok (.getfield 78, 3) := by decide +kernel
theorem d_ValueStream_receiveLoad_7 : decode b_ValueStream_receiveLoad 7 = .ok (.getfield 81, 3) := by decide +kernel
theorem d_ValueStream_receiveLoad_10 : decode b_ValueStream_receiveLoad 10 = .ok (.ifCond .ne 5, 3) := by decide +kernel
theorem d_ValueStream_receiveLoad_13 : decode b_ValueStream_receiveLoad 13 = .ok (.iconst 0, 1) := by decide +kernel
theorem d_ValueStream_receiveLoad_14 : decode b_ValueStream_receiveLoad 14 = .ok (.ireturn, 1) := by decide +kernel
theorem d_ValueStream_receiveLoad_15 : decode b_ValueStream_receiveLoad 15 = .ok (.aload_n 0, 1) := by decide +kernel
theorem d_ValueStream_receiveLoad_16 : decode b_ValueStream_receiveLoad 16 = .ok (.getfield 86, 3) := by decide +kernel
theorem d_ValueStream_receiveLoad_19 : decode b_ValueStream_receiveLoad 19 = .ok (.aload_n 0, 1) := by decide +kernel
theorem d_ValueStream_receiveLoad_20 : decode b_ValueStream_receiveLoad 20 = .ok (.getfield 36, 3) := by decide +kernel
theorem d_ValueStream_receiveLoad_23 : decode b_ValueStream_receiveLoad 23 = .ok (.getfield 89, 3) := by decide +kernel
theorem d_ValueStream_receiveLoad_26 : decode b_ValueStream_receiveLoad 26 = .ok (.iload_n 1, 1) := by decide +kernel
theorem d_ValueStream_receiveLoad_27 : decode b_ValueStream_receiveLoad 27 = .ok (.iaload, 1) := by decide +kernel
theorem d_ValueStream_receiveLoad_28 : decode b_ValueStream_receiveLoad 28 = .ok (.aload_n 0, 1) := by decide +kernel
theorem d_ValueStream_receiveLoad_29 : decode b_ValueStream_receiveLoad 29 = .ok (.getfield 61, 3) := by decide +kernel
theorem d_ValueStream_receiveLoad_32 : decode b_ValueStream_receiveLoad 32 = .ok (.getfield 78, 3) := by decide +kernel
theorem d_ValueStream_receiveLoad_35 : decode b_ValueStream_receiveLoad 35 = .ok (.invokevirtual 92, 3) := by decide +kernel
theorem d_ValueStream_receiveLoad_38 : decode b_ValueStream_receiveLoad 38 = .ok (.iastore, 1) := by decide +kernel
theorem d_ValueStream_receiveLoad_39 : decode b_ValueStream_receiveLoad 39 = .ok (.aload_n 0, 1) := by decide +kernel
theorem d_ValueStream_receiveLoad_40 : decode b_ValueStream_receiveLoad 40 = .ok (.iload_n 1, 1) := by decide +kernel
theorem d_ValueStream_receiveLoad_41 : decode b_ValueStream_receiveLoad 41 = .ok (.iconst 1, 1) := by decide +kernel
theorem d_ValueStream_receiveLoad_42 : decode b_ValueStream_receiveLoad 42 = .ok (.iadd, 1) := by decide +kernel
theorem d_ValueStream_receiveLoad_43 : decode b_ValueStream_receiveLoad 43 = .ok (.invokevirtual 96, 3) := by decide +kernel
theorem d_ValueStream_receiveLoad_46 : decode b_ValueStream_receiveLoad 46 = .ok (.ireturn, 1) := by decide +kernel
theorem d_ValueStream_step_0 : decode b_ValueStream_step 0 = .ok (.aload_n 0, 1) := by decide +kernel
theorem d_ValueStream_step_1 : decode b_ValueStream_step 1 = .ok (.invokevirtual 32, 3) := by decide +kernel
theorem d_ValueStream_step_4 : decode b_ValueStream_step 4 = .ok (.ifCond .eq 5, 3) := by decide +kernel
theorem d_ValueStream_step_7 : decode b_ValueStream_step 7 = .ok (.iconst 0, 1) := by decide +kernel
theorem d_ValueStream_step_8 : decode b_ValueStream_step 8 = .ok (.ireturn, 1) := by decide +kernel
theorem d_ValueStream_step_9 : decode b_ValueStream_step 9 = .ok (.aload_n 0, 1) := by decide +kernel
theorem d_ValueStream_step_10 : decode b_ValueStream_step 10 = .ok (.getfield 36, 3) := by decide +kernel
theorem d_ValueStream_step_13 : decode b_ValueStream_step 13 = .ok (.getfield 40, 3) := by decide +kernel
theorem d_ValueStream_step_16 : decode b_ValueStream_step 16 = .ok (.aload_n 0, 1) := by decide +kernel
theorem d_ValueStream_step_17 : decode b_ValueStream_step 17 = .ok (.getfield 44, 3) := by decide +kernel
theorem d_ValueStream_step_20 : decode b_ValueStream_step 20 = .ok (.iaload, 1) := by decide +kernel
theorem d_ValueStream_step_21 : decode b_ValueStream_step 21 = .ok (.iconst 1, 1) := by decide +kernel
theorem d_ValueStream_step_22 : decode b_ValueStream_step 22 = .ok (.if_icmp .ne 39, 3) := by decide +kernel
theorem d_ValueStream_step_25 : decode b_ValueStream_step 25 = .ok (.aload_n 0, 1) := by decide +kernel
theorem d_ValueStream_step_26 : decode b_ValueStream_step 26 = .ok (.getfield 36, 3) := by decide +kernel
theorem d_ValueStream_step_29 : decode b_ValueStream_step 29 = .ok (.getfield 48, 3) := by decide +kernel
theorem d_ValueStream_step_32 : decode b_ValueStream_step 32 = .ok (.aload_n 0, 1) := by decide +kernel
theorem d_ValueStream_step_33 : decode b_ValueStream_step 33 = .ok (.getfield 44, 3) := by decide +kernel
theorem d_ValueStream_step_36 : decode b_ValueStream_step 36 = .ok (.iaload, 1) := by decide +kernel
theorem d_ValueStream_step_37 : decode b_ValueStream_step 37 = .ok (.iconst 4, 1) := by decide +kernel
theorem d_ValueStream_step_38 : decode b_ValueStream_step 38 = .ok (.if_icmp .ne 14, 3) := by decide +kernel
theorem d_ValueStream_step_41 : decode b_ValueStream_step 41 = .ok (.aload_n 0, 1) := by decide +kernel
theorem d_ValueStream_step_42 : decode b_ValueStream_step 42 = .ok (.aload_n 0, 1) := by decide +kernel
theorem d_ValueStream_step_43 : decode b_ValueStream_step 43 = .ok (.getfield 44, 3) := by decide +kernel
theorem d_ValueStream_step_46 : decode b_ValueStream_step 46 = .ok (.invokevirtual 51, 3) := by decide +kernel
theorem d_ValueStream_step_49 : decode b_ValueStream_step 49 = .ok (.goto 11, 3) := by decide +kernel
theorem d_ValueStream_step_52 : decode b_ValueStream_step 52 = .ok (.aload_n 0, 1) := by decide +kernel
theorem d_ValueStream_step_53 : decode b_ValueStream_step 53 = .ok (.aload_n 0, 1) := by decide +kernel
theorem d_ValueStream_step_54 : decode b_ValueStream_step 54 = .ok (.getfield 44, 3) := by decide +kernel
theorem d_ValueStream_step_57 : decode b_ValueStream_step 57 = .ok (.invokevirtual 55, 3) := by decide +kernel
theorem d_ValueStream_step_60 : decode b_ValueStream_step 60 = .ok (.ireturn, 1) := by decide +kernel
theorem d_ValueStream_step_61 : decode b_ValueStream_step 61 = .ok (.aload_n 0, 1) := by decide +kernel
theorem d_ValueStream_step_62 : decode b_ValueStream_step 62 = .ok (.getfield 36, 3) := by decide +kernel
theorem d_ValueStream_step_65 : decode b_ValueStream_step 65 = .ok (.aload_n 0, 1) := by decide +kernel
theorem d_ValueStream_step_66 : decode b_ValueStream_step 66 = .ok (.getfield 44, 3) := by decide +kernel
theorem d_ValueStream_step_69 : decode b_ValueStream_step 69 = .ok (.invokevirtual 58, 3) := by decide +kernel
theorem d_ValueStream_step_72 : decode b_ValueStream_step 72 = .ok (.ifCond .eq 21, 3) := by decide +kernel
theorem d_ValueStream_step_75 : decode b_ValueStream_step 75 = .ok (.aload_n 0, 1) := by decide +kernel
theorem d_ValueStream_step_76 : decode b_ValueStream_step 76 = .ok (.aload_n 0, 1) := by decide +kernel
theorem d_ValueStream_step_77 : decode b_ValueStream_step 77 = .ok (.getfield 44, 3) := by decide +kernel
theorem d_ValueStream_step_80 : decode b_ValueStream_step 80 = .ok (.aload_n 0, 1) := by decide +kernel
theorem d_ValueStream_step_81 : decode b_ValueStream_step 81 = .ok (.getfield 61, 3) := by decide +kernel
theorem d_ValueStream_step_84 : decode b_ValueStream_step 84 = .ok (.getfield 65, 3) := by decide +kernel
theorem d_ValueStream_step_87 : decode b_ValueStream_step 87 = .ok (.invokevirtual 71, 3) := by decide +kernel
theorem d_ValueStream_step_90 : decode b_ValueStream_step 90 = .ok (.goto 11, 3) := by decide +kernel
theorem d_ValueStream_step_93 : decode b_ValueStream_step 93 = .ok (.aload_n 0, 1) := by decide +kernel
theorem d_ValueStream_step_94 : decode b_ValueStream_step 94 = .ok (.aload_n 0, 1) := by decide +kernel
theorem d_ValueStream_step_95 : decode b_ValueStream_step 95 = .ok (.getfield 44, 3) := by decide +kernel
theorem d_ValueStream_step_98 : decode b_ValueStream_step 98 = .ok (.invokevirtual 75, 3) := by decide +kernel
theorem d_ValueStream_step_101 : decode b_ValueStream_step 101 = .ok (.ireturn, 1) := by decide +kernel
theorem d_SlippedStreams_value_0 : decode b_SlippedStreams_value 0 = .ok (.iload_n 1, 1) := by decide +kernel
theorem d_SlippedStreams_value_1 : decode b_SlippedStreams_value 1 = .ok (.invokestatic 82, 3) := by decide +kernel
theorem d_SlippedStreams_value_4 : decode b_SlippedStreams_value 4 = .ok (.ifCond .eq 14, 3) := by decide +kernel
theorem d_SlippedStreams_value_7 : decode b_SlippedStreams_value 7 = .ok (.aload_n 0, 1) := by decide +kernel
theorem d_SlippedStreams_value_8 : decode b_SlippedStreams_value 8 = .ok (.getfield 39, 3) := by decide +kernel
theorem d_SlippedStreams_value_11 : decode b_SlippedStreams_value 11 = .ok (.iload_n 1, 1) := by decide +kernel
theorem d_SlippedStreams_value_12 : decode b_SlippedStreams_value 12 = .ok (.invokevirtual 92, 3) := by decide +kernel
theorem d_SlippedStreams_value_15 : decode b_SlippedStreams_value 15 = .ok (.goto 4, 3) := by decide +kernel
theorem d_SlippedStreams_value_18 : decode b_SlippedStreams_value 18 = .ok (.iconst (-1), 1) := by decide +kernel
theorem d_SlippedStreams_value_19 : decode b_SlippedStreams_value 19 = .ok (.ireturn, 1) := by decide +kernel
theorem d_SlippedStreams_both_0 : decode b_SlippedStreams_both 0 = .ok (.iload_n 1, 1) := by decide +kernel
theorem d_SlippedStreams_both_1 : decode b_SlippedStreams_both 1 = .ok (.invokestatic 82, 3) := by decide +kernel
theorem d_SlippedStreams_both_4 : decode b_SlippedStreams_both 4 = .ok (.ifCond .ne 5, 3) := by decide +kernel
theorem d_SlippedStreams_both_7 : decode b_SlippedStreams_both 7 = .ok (.iconst (-1), 1) := by decide +kernel
theorem d_SlippedStreams_both_8 : decode b_SlippedStreams_both 8 = .ok (.ireturn, 1) := by decide +kernel
theorem d_SlippedStreams_both_9 : decode b_SlippedStreams_both 9 = .ok (.iconst 0, 1) := by decide +kernel
theorem d_SlippedStreams_both_10 : decode b_SlippedStreams_both 10 = .ok (.istore_n 2, 1) := by decide +kernel
theorem d_SlippedStreams_both_11 : decode b_SlippedStreams_both 11 = .ok (.iconst 0, 1) := by decide +kernel
theorem d_SlippedStreams_both_12 : decode b_SlippedStreams_both 12 = .ok (.istore_n 3, 1) := by decide +kernel
theorem d_SlippedStreams_both_13 : decode b_SlippedStreams_both 13 = .ok (.iload_n 3, 1) := by decide +kernel
theorem d_SlippedStreams_both_14 : decode b_SlippedStreams_both 14 = .ok (.iload_n 1, 1) := by decide +kernel
theorem d_SlippedStreams_both_15 : decode b_SlippedStreams_both 15 = .ok (.if_icmp .ge 42, 3) := by decide +kernel
theorem d_SlippedStreams_both_18 : decode b_SlippedStreams_both 18 = .ok (.aload_n 0, 1) := by decide +kernel
theorem d_SlippedStreams_both_19 : decode b_SlippedStreams_both 19 = .ok (.getfield 32, 3) := by decide +kernel
theorem d_SlippedStreams_both_22 : decode b_SlippedStreams_both 22 = .ok (.invokevirtual 93, 3) := by decide +kernel
theorem d_SlippedStreams_both_25 : decode b_SlippedStreams_both 25 = .ok (.ifCond .eq 9, 3) := by decide +kernel
theorem d_SlippedStreams_both_28 : decode b_SlippedStreams_both 28 = .ok (.iinc 2 1, 3) := by decide +kernel
theorem d_SlippedStreams_both_31 : decode b_SlippedStreams_both 31 = .ok (.goto 7, 3) := by decide +kernel
theorem d_SlippedStreams_both_34 : decode b_SlippedStreams_both 34 = .ok (.aload_n 0, 1) := by decide +kernel
theorem d_SlippedStreams_both_35 : decode b_SlippedStreams_both 35 = .ok (.invokevirtual 89, 3) := by decide +kernel
theorem d_SlippedStreams_both_38 : decode b_SlippedStreams_both 38 = .ok (.aload_n 0, 1) := by decide +kernel
theorem d_SlippedStreams_both_39 : decode b_SlippedStreams_both 39 = .ok (.getfield 39, 3) := by decide +kernel
theorem d_SlippedStreams_both_42 : decode b_SlippedStreams_both 42 = .ok (.invokevirtual 97, 3) := by decide +kernel
theorem d_SlippedStreams_both_45 : decode b_SlippedStreams_both 45 = .ok (.ifCond .eq 6, 3) := by decide +kernel
theorem d_SlippedStreams_both_48 : decode b_SlippedStreams_both 48 = .ok (.iinc 2 1, 3) := by decide +kernel
theorem d_SlippedStreams_both_51 : decode b_SlippedStreams_both 51 = .ok (.iinc 3 1, 3) := by decide +kernel
theorem d_SlippedStreams_both_54 : decode b_SlippedStreams_both 54 = .ok (.goto (-41), 3) := by decide +kernel
theorem d_SlippedStreams_both_57 : decode b_SlippedStreams_both 57 = .ok (.iload_n 2, 1) := by decide +kernel
theorem d_SlippedStreams_both_58 : decode b_SlippedStreams_both 58 = .ok (.ireturn, 1) := by decide +kernel
theorem d_Run_position_0 : decode b_Run_position 0 = .ok (.aload_n 0, 1) := by decide +kernel
theorem d_Run_position_1 : decode b_Run_position 1 = .ok (.getfield 23, 3) := by decide +kernel
theorem d_Run_position_4 : decode b_Run_position 4 = .ok (.aload_n 0, 1) := by decide +kernel
theorem d_Run_position_5 : decode b_Run_position 5 = .ok (.getfield 15, 3) := by decide +kernel
theorem d_Run_position_8 : decode b_Run_position 8 = .ok (.getfield 27, 3) := by decide +kernel
theorem d_Run_position_11 : decode b_Run_position 11 = .ok (.invokestatic 32, 3) := by decide +kernel
theorem d_Run_position_14 : decode b_Run_position 14 = .ok (.ireturn, 1) := by decide +kernel
theorem d_SlippedStreams_place_0 : decode b_SlippedStreams_place 0 = .ok (.iload_n 1, 1) := by decide +kernel
theorem d_SlippedStreams_place_1 : decode b_SlippedStreams_place 1 = .ok (.ifCond .ne 11, 3) := by decide +kernel
theorem d_SlippedStreams_place_4 : decode b_SlippedStreams_place 4 = .ok (.aload_n 0, 1) := by decide +kernel
theorem d_SlippedStreams_place_5 : decode b_SlippedStreams_place 5 = .ok (.getfield 32, 3) := by decide +kernel
theorem d_SlippedStreams_place_8 : decode b_SlippedStreams_place 8 = .ok (.invokevirtual 98, 3) := by decide +kernel
theorem d_SlippedStreams_place_11 : decode b_SlippedStreams_place 11 = .ok (.ireturn, 1) := by decide +kernel
theorem d_SlippedStreams_place_12 : decode b_SlippedStreams_place 12 = .ok (.iload_n 1, 1) := by decide +kernel
theorem d_SlippedStreams_place_13 : decode b_SlippedStreams_place 13 = .ok (.iconst 1, 1) := by decide +kernel
theorem d_SlippedStreams_place_14 : decode b_SlippedStreams_place 14 = .ok (.if_icmp .ne 13, 3) := by decide +kernel
theorem d_SlippedStreams_place_17 : decode b_SlippedStreams_place 17 = .ok (.aload_n 0, 1) := by decide +kernel
theorem d_SlippedStreams_place_18 : decode b_SlippedStreams_place 18 = .ok (.getfield 39, 3) := by decide +kernel
theorem d_SlippedStreams_place_21 : decode b_SlippedStreams_place 21 = .ok (.invokevirtual 102, 3) := by decide +kernel
theorem d_SlippedStreams_place_24 : decode b_SlippedStreams_place 24 = .ok (.goto 10, 3) := by decide +kernel
theorem d_SlippedStreams_place_27 : decode b_SlippedStreams_place 27 = .ok (.aload_n 0, 1) := by decide +kernel
theorem d_SlippedStreams_place_28 : decode b_SlippedStreams_place 28 = .ok (.getfield 48, 3) := by decide +kernel
theorem d_SlippedStreams_place_31 : decode b_SlippedStreams_place 31 = .ok (.invokevirtual 103, 3) := by decide +kernel
theorem d_SlippedStreams_place_34 : decode b_SlippedStreams_place 34 = .ok (.ireturn, 1) := by decide +kernel
theorem d_SlippedStreams_slip_0 : decode b_SlippedStreams_slip 0 = .ok (.aload_n 0, 1) := by decide +kernel
theorem d_SlippedStreams_slip_1 : decode b_SlippedStreams_slip 1 = .ok (.getfield 32, 3) := by decide +kernel
theorem d_SlippedStreams_slip_4 : decode b_SlippedStreams_slip 4 = .ok (.getfield 104, 3) := by decide +kernel
theorem d_SlippedStreams_slip_7 : decode b_SlippedStreams_slip 7 = .ok (.aload_n 0, 1) := by decide +kernel
theorem d_SlippedStreams_slip_8 : decode b_SlippedStreams_slip 8 = .ok (.getfield 39, 3) := by decide +kernel
theorem d_SlippedStreams_slip_11 : decode b_SlippedStreams_slip 11 = .ok (.getfield 107, 3) := by decide +kernel
theorem d_SlippedStreams_slip_14 : decode b_SlippedStreams_slip 14 = .ok (.isub, 1) := by decide +kernel
theorem d_SlippedStreams_slip_15 : decode b_SlippedStreams_slip 15 = .ok (.ireturn, 1) := by decide +kernel
theorem d_SlippedStreams_queue_0 : decode b_SlippedStreams_queue 0 = .ok (.iload_n 1, 1) := by decide +kernel
theorem d_SlippedStreams_queue_1 : decode b_SlippedStreams_queue 1 = .ok (.tableswitch 105 0 5 #[39, 50, 61, 72, 83, 94], 39) := by decide +kernel
theorem d_SlippedStreams_queue_40 : decode b_SlippedStreams_queue 40 = .ok (.aload_n 0, 1) := by decide +kernel
theorem d_SlippedStreams_queue_41 : decode b_SlippedStreams_queue 41 = .ok (.getfield 23, 3) := by decide +kernel
theorem d_SlippedStreams_queue_44 : decode b_SlippedStreams_queue 44 = .ok (.getfield 108, 3) := by decide +kernel
theorem d_SlippedStreams_queue_47 : decode b_SlippedStreams_queue 47 = .ok (.getfield 112, 3) := by decide +kernel
theorem d_SlippedStreams_queue_50 : decode b_SlippedStreams_queue 50 = .ok (.ireturn, 1) := by decide +kernel
theorem d_SlippedStreams_queue_51 : decode b_SlippedStreams_queue 51 = .ok (.aload_n 0, 1) := by decide +kernel
theorem d_SlippedStreams_queue_52 : decode b_SlippedStreams_queue 52 = .ok (.getfield 23, 3) := by decide +kernel
theorem d_SlippedStreams_queue_55 : decode b_SlippedStreams_queue 55 = .ok (.getfield 115, 3) := by decide +kernel
theorem d_SlippedStreams_queue_58 : decode b_SlippedStreams_queue 58 = .ok (.getfield 112, 3) := by decide +kernel
theorem d_SlippedStreams_queue_61 : decode b_SlippedStreams_queue 61 = .ok (.ireturn, 1) := by decide +kernel
theorem d_SlippedStreams_queue_62 : decode b_SlippedStreams_queue 62 = .ok (.aload_n 0, 1) := by decide +kernel
theorem d_SlippedStreams_queue_63 : decode b_SlippedStreams_queue 63 = .ok (.getfield 23, 3) := by decide +kernel
theorem d_SlippedStreams_queue_66 : decode b_SlippedStreams_queue 66 = .ok (.getfield 118, 3) := by decide +kernel
theorem d_SlippedStreams_queue_69 : decode b_SlippedStreams_queue 69 = .ok (.getfield 112, 3) := by decide +kernel
theorem d_SlippedStreams_queue_72 : decode b_SlippedStreams_queue 72 = .ok (.ireturn, 1) := by decide +kernel
theorem d_SlippedStreams_queue_73 : decode b_SlippedStreams_queue 73 = .ok (.aload_n 0, 1) := by decide +kernel
theorem d_SlippedStreams_queue_74 : decode b_SlippedStreams_queue 74 = .ok (.getfield 23, 3) := by decide +kernel
theorem d_SlippedStreams_queue_77 : decode b_SlippedStreams_queue 77 = .ok (.getfield 121, 3) := by decide +kernel
theorem d_SlippedStreams_queue_80 : decode b_SlippedStreams_queue 80 = .ok (.getfield 112, 3) := by decide +kernel
theorem d_SlippedStreams_queue_83 : decode b_SlippedStreams_queue 83 = .ok (.ireturn, 1) := by decide +kernel
theorem d_SlippedStreams_queue_84 : decode b_SlippedStreams_queue 84 = .ok (.aload_n 0, 1) := by decide +kernel
theorem d_SlippedStreams_queue_85 : decode b_SlippedStreams_queue 85 = .ok (.getfield 23, 3) := by decide +kernel
theorem d_SlippedStreams_queue_88 : decode b_SlippedStreams_queue 88 = .ok (.getfield 124, 3) := by decide +kernel
theorem d_SlippedStreams_queue_91 : decode b_SlippedStreams_queue 91 = .ok (.getfield 112, 3) := by decide +kernel
theorem d_SlippedStreams_queue_94 : decode b_SlippedStreams_queue 94 = .ok (.ireturn, 1) := by decide +kernel
theorem d_SlippedStreams_queue_95 : decode b_SlippedStreams_queue 95 = .ok (.aload_n 0, 1) := by decide +kernel
theorem d_SlippedStreams_queue_96 : decode b_SlippedStreams_queue 96 = .ok (.getfield 23, 3) := by decide +kernel
theorem d_SlippedStreams_queue_99 : decode b_SlippedStreams_queue 99 = .ok (.getfield 127, 3) := by decide +kernel
theorem d_SlippedStreams_queue_102 : decode b_SlippedStreams_queue 102 = .ok (.getfield 131, 3) := by decide +kernel
theorem d_SlippedStreams_queue_105 : decode b_SlippedStreams_queue 105 = .ok (.ireturn, 1) := by decide +kernel
theorem d_SlippedStreams_queue_106 : decode b_SlippedStreams_queue 106 = .ok (.iconst (-1), 1) := by decide +kernel
theorem d_SlippedStreams_queue_107 : decode b_SlippedStreams_queue 107 = .ok (.ireturn, 1) := by decide +kernel
theorem d_SlippedStreams_register_0 : decode b_SlippedStreams_register 0 = .ok (.iload_n 1, 1) := by decide +kernel
theorem d_SlippedStreams_register_1 : decode b_SlippedStreams_register 1 = .ok (.invokestatic 134, 3) := by decide +kernel
theorem d_SlippedStreams_register_4 : decode b_SlippedStreams_register 4 = .ok (.ifCond .ne 5, 3) := by decide +kernel
theorem d_SlippedStreams_register_7 : decode b_SlippedStreams_register 7 = .ok (.iconst 0, 1) := by decide +kernel
theorem d_SlippedStreams_register_8 : decode b_SlippedStreams_register 8 = .ok (.ireturn, 1) := by decide +kernel
theorem d_SlippedStreams_register_9 : decode b_SlippedStreams_register 9 = .ok (.iload_n 2, 1) := by decide +kernel
theorem d_SlippedStreams_register_10 : decode b_SlippedStreams_register 10 = .ok (.ifCond .eq 13, 3) := by decide +kernel
theorem d_SlippedStreams_register_13 : decode b_SlippedStreams_register 13 = .ok (.aload_n 0, 1) := by decide +kernel
theorem d_SlippedStreams_register_14 : decode b_SlippedStreams_register 14 = .ok (.getfield 48, 3) := by decide +kernel
theorem d_SlippedStreams_register_17 : decode b_SlippedStreams_register 17 = .ok (.getfield 137, 3) := by decide +kernel
theorem d_SlippedStreams_register_20 : decode b_SlippedStreams_register 20 = .ok (.iload_n 1, 1) := by decide +kernel
theorem d_SlippedStreams_register_21 : decode b_SlippedStreams_register 21 = .ok (.iaload, 1) := by decide +kernel
theorem d_SlippedStreams_register_22 : decode b_SlippedStreams_register 22 = .ok (.ireturn, 1) := by decide +kernel
theorem d_SlippedStreams_register_23 : decode b_SlippedStreams_register 23 = .ok (.aload_n 0, 1) := by decide +kernel
theorem d_SlippedStreams_register_24 : decode b_SlippedStreams_register 24 = .ok (.getfield 10, 3) := by decide +kernel
theorem d_SlippedStreams_register_27 : decode b_SlippedStreams_register 27 = .ok (.iload_n 1, 1) := by decide +kernel
theorem d_SlippedStreams_register_28 : decode b_SlippedStreams_register 28 = .ok (.invokevirtual 140, 3) := by decide +kernel
theorem d_SlippedStreams_register_31 : decode b_SlippedStreams_register 31 = .ok (.ifCond .eq 15, 3) := by decide +kernel
theorem d_SlippedStreams_register_34 : decode b_SlippedStreams_register 34 = .ok (.aload_n 0, 1) := by decide +kernel
theorem d_SlippedStreams_register_35 : decode b_SlippedStreams_register 35 = .ok (.getfield 32, 3) := by decide +kernel
theorem d_SlippedStreams_register_38 : decode b_SlippedStreams_register 38 = .ok (.getfield 143, 3) := by decide +kernel
theorem d_SlippedStreams_register_41 : decode b_SlippedStreams_register 41 = .ok (.iload_n 1, 1) := by decide +kernel
theorem d_SlippedStreams_register_42 : decode b_SlippedStreams_register 42 = .ok (.iaload, 1) := by decide +kernel
theorem d_SlippedStreams_register_43 : decode b_SlippedStreams_register 43 = .ok (.goto 12, 3) := by decide +kernel
theorem d_SlippedStreams_register_46 : decode b_SlippedStreams_register 46 = .ok (.aload_n 0, 1) := by decide +kernel
theorem d_SlippedStreams_register_47 : decode b_SlippedStreams_register 47 = .ok (.getfield 39, 3) := by decide +kernel
theorem d_SlippedStreams_register_50 : decode b_SlippedStreams_register 50 = .ok (.getfield 144, 3) := by decide +kernel
theorem d_SlippedStreams_register_53 : decode b_SlippedStreams_register 53 = .ok (.iload_n 1, 1) := by decide +kernel
theorem d_SlippedStreams_register_54 : decode b_SlippedStreams_register 54 = .ok (.iaload, 1) := by decide +kernel
theorem d_SlippedStreams_register_55 : decode b_SlippedStreams_register 55 = .ok (.ireturn, 1) := by decide +kernel
theorem d_SlippedStreams_peek_0 : decode b_SlippedStreams_peek 0 = .ok (.iload_n 1, 1) := by decide +kernel
theorem d_SlippedStreams_peek_1 : decode b_SlippedStreams_peek 1 = .ok (.bipush 31, 2) := by decide +kernel
theorem d_SlippedStreams_peek_3 : decode b_SlippedStreams_peek 3 = .ok (.iand, 1) := by decide +kernel
theorem d_SlippedStreams_peek_4 : decode b_SlippedStreams_peek 4 = .ok (.istore_n 3, 1) := by decide +kernel
theorem d_SlippedStreams_peek_5 : decode b_SlippedStreams_peek 5 = .ok (.iload_n 2, 1) := by decide +kernel
theorem d_SlippedStreams_peek_6 : decode b_SlippedStreams_peek 6 = .ok (.ifCond .eq 15, 3) := by decide +kernel
theorem d_SlippedStreams_peek_9 : decode b_SlippedStreams_peek 9 = .ok (.aload_n 0, 1) := by decide +kernel
theorem d_SlippedStreams_peek_10 : decode b_SlippedStreams_peek 10 = .ok (.getfield 48, 3) := by decide +kernel
theorem d_SlippedStreams_peek_13 : decode b_SlippedStreams_peek 13 = .ok (.getfield 145, 3) := by decide +kernel
theorem d_SlippedStreams_peek_16 : decode b_SlippedStreams_peek 16 = .ok (.iload_n 3, 1) := by decide +kernel
theorem d_SlippedStreams_peek_17 : decode b_SlippedStreams_peek 17 = .ok (.iaload, 1) := by decide +kernel
theorem d_SlippedStreams_peek_18 : decode b_SlippedStreams_peek 18 = .ok (.goto 12, 3) := by decide +kernel
theorem d_SlippedStreams_peek_21 : decode b_SlippedStreams_peek 21 = .ok (.aload_n 0, 1) := by decide +kernel
theorem d_SlippedStreams_peek_22 : decode b_SlippedStreams_peek 22 = .ok (.getfield 23, 3) := by decide +kernel
theorem d_SlippedStreams_peek_25 : decode b_SlippedStreams_peek 25 = .ok (.getfield 148, 3) := by decide +kernel
theorem d_SlippedStreams_peek_28 : decode b_SlippedStreams_peek 28 = .ok (.iload_n 3, 1) := by decide +kernel
theorem d_SlippedStreams_peek_29 : decode b_SlippedStreams_peek 29 = .ok (.iaload, 1) := by decide +kernel
theorem d_SlippedStreams_peek_30 : decode b_SlippedStreams_peek 30 = .ok (.ireturn, 1) := by decide +kernel
theorem d_SlippedStreams_losses_0 : decode b_SlippedStreams_losses 0 = .ok (.aload_n 0, 1) := by decide +kernel
theorem d_SlippedStreams_losses_1 : decode b_SlippedStreams_losses 1 = .ok (.getfield 149, 3) := by decide +kernel
theorem d_SlippedStreams_losses_4 : decode b_SlippedStreams_losses 4 = .ok (.ireturn, 1) := by decide +kernel
theorem d_PlainRun_perform_0 : decode b_PlainRun_perform 0 = .ok (.aload_n 0, 1) := by decide +kernel
theorem d_PlainRun_perform_1 : decode b_PlainRun_perform 1 = .ok (.getfield 50, 3) := by decide +kernel
theorem d_PlainRun_perform_4 : decode b_PlainRun_perform 4 = .ok (.getfield 71, 3) := by decide +kernel
theorem d_PlainRun_perform_7 : decode b_PlainRun_perform 7 = .ok (.iload_n 1, 1) := by decide +kernel
theorem d_PlainRun_perform_8 : decode b_PlainRun_perform 8 = .ok (.iaload, 1) := by decide +kernel
theorem d_PlainRun_perform_9 : decode b_PlainRun_perform 9 = .ok (.istore_n 2, 1) := by decide +kernel
theorem d_PlainRun_perform_10 : decode b_PlainRun_perform 10 = .ok (.aload_n 0, 1) := by decide +kernel
theorem d_PlainRun_perform_11 : decode b_PlainRun_perform 11 = .ok (.getfield 50, 3) := by decide +kernel
theorem d_PlainRun_perform_14 : decode b_PlainRun_perform 14 = .ok (.getfield 74, 3) := by decide +kernel
theorem d_PlainRun_perform_17 : decode b_PlainRun_perform 17 = .ok (.iload_n 1, 1) := by decide +kernel
theorem d_PlainRun_perform_18 : decode b_PlainRun_perform 18 = .ok (.iaload, 1) := by decide +kernel
theorem d_PlainRun_perform_19 : decode b_PlainRun_perform 19 = .ok (.tableswitch 90 4 8 #[33, 52, 87, 87, 71], 33) := by decide +kernel
theorem d_PlainRun_perform_52 : decode b_PlainRun_perform 52 = .ok (.aload_n 0, 1) := by decide +kernel
theorem d_PlainRun_perform_53 : decode b_PlainRun_perform 53 = .ok (.getfield 30, 3) := by decide +kernel
theorem d_PlainRun_perform_56 : decode b_PlainRun_perform 56 = .ok (.iload_n 2, 1) := by decide +kernel
theorem d_PlainRun_perform_57 : decode b_PlainRun_perform 57 = .ok (.aload_n 0, 1) := by decide +kernel
theorem d_PlainRun_perform_58 : decode b_PlainRun_perform 58 = .ok (.getfield 9, 3) := by decide +kernel
theorem d_PlainRun_perform_61 : decode b_PlainRun_perform 61 = .ok (.aload_n 0, 1) := by decide +kernel
theorem d_PlainRun_perform_62 : decode b_PlainRun_perform 62 = .ok (.iload_n 1, 1) := by decide +kernel
theorem d_PlainRun_perform_63 : decode b_PlainRun_perform 63 = .ok (.invokevirtual 77, 3) := by decide +kernel
theorem d_PlainRun_perform_66 : decode b_PlainRun_perform 66 = .ok (.iaload, 1) := by decide +kernel
theorem d_PlainRun_perform_67 : decode b_PlainRun_perform 67 = .ok (.iastore, 1) := by decide +kernel
theorem d_PlainRun_perform_68 : decode b_PlainRun_perform 68 = .ok (.goto 46, 3) := by decide +kernel
theorem d_PlainRun_perform_71 : decode b_PlainRun_perform 71 = .ok (.aload_n 0, 1) := by decide +kernel
theorem d_PlainRun_perform_72 : decode b_PlainRun_perform 72 = .ok (.getfield 9, 3) := by decide +kernel
theorem d_PlainRun_perform_75 : decode b_PlainRun_perform 75 = .ok (.aload_n 0, 1) := by decide +kernel
theorem d_PlainRun_perform_76 : decode b_PlainRun_perform 76 = .ok (.iload_n 1, 1) := by decide +kernel
theorem d_PlainRun_perform_77 : decode b_PlainRun_perform 77 = .ok (.invokevirtual 77, 3) := by decide +kernel
theorem d_PlainRun_perform_80 : decode b_PlainRun_perform 80 = .ok (.aload_n 0, 1) := by decide +kernel
theorem d_PlainRun_perform_81 : decode b_PlainRun_perform 81 = .ok (.getfield 30, 3) := by decide +kernel
theorem d_PlainRun_perform_84 : decode b_PlainRun_perform 84 = .ok (.iload_n 2, 1) := by decide +kernel
theorem d_PlainRun_perform_85 : decode b_PlainRun_perform 85 = .ok (.iaload, 1) := by decide +kernel
theorem d_PlainRun_perform_86 : decode b_PlainRun_perform 86 = .ok (.iastore, 1) := by decide +kernel
theorem d_PlainRun_perform_87 : decode b_PlainRun_perform 87 = .ok (.goto 27, 3) := by decide +kernel
theorem d_PlainRun_perform_90 : decode b_PlainRun_perform 90 = .ok (.aload_n 0, 1) := by decide +kernel
theorem d_PlainRun_perform_91 : decode b_PlainRun_perform 91 = .ok (.getfield 20, 3) := by decide +kernel
theorem d_PlainRun_perform_94 : decode b_PlainRun_perform 94 = .ok (.aload_n 0, 1) := by decide +kernel
theorem d_PlainRun_perform_95 : decode b_PlainRun_perform 95 = .ok (.getfield 30, 3) := by decide +kernel
theorem d_PlainRun_perform_98 : decode b_PlainRun_perform 98 = .ok (.iload_n 2, 1) := by decide +kernel
theorem d_PlainRun_perform_99 : decode b_PlainRun_perform 99 = .ok (.iaload, 1) := by decide +kernel
theorem d_PlainRun_perform_100 : decode b_PlainRun_perform 100 = .ok (.invokevirtual 81, 3) := by decide +kernel
theorem d_PlainRun_perform_103 : decode b_PlainRun_perform 103 = .ok (.goto 11, 3) := by decide +kernel
theorem d_PlainRun_perform_106 : decode b_PlainRun_perform 106 = .ok (.goto 8, 3) := by decide +kernel
theorem d_PlainRun_perform_109 : decode b_PlainRun_perform 109 = .ok (.aload_n 0, 1) := by decide +kernel
theorem d_PlainRun_perform_110 : decode b_PlainRun_perform 110 = .ok (.iload_n 1, 1) := by decide +kernel
theorem d_PlainRun_perform_111 : decode b_PlainRun_perform 111 = .ok (.invokevirtual 84, 3) := by decide +kernel
theorem d_PlainRun_perform_114 : decode b_PlainRun_perform 114 = .ok (.return_, 1) := by decide +kernel
theorem d_PlainRun_step_0 : decode b_PlainRun_step 0 = .ok (.aload_n 0, 1) := by decide +kernel
theorem d_PlainRun_step_1 : decode b_PlainRun_step 1 = .ok (.invokevirtual 46, 3) := by decide +kernel
theorem d_PlainRun_step_4 : decode b_PlainRun_step 4 = .ok (.ifCond .eq 5, 3) := by decide +kernel
theorem d_PlainRun_step_7 : decode b_PlainRun_step 7 = .ok (.iconst 0, 1) := by decide +kernel
theorem d_PlainRun_step_8 : decode b_PlainRun_step 8 = .ok (.ireturn, 1) := by decide +kernel
theorem d_PlainRun_step_9 : decode b_PlainRun_step 9 = .ok (.aload_n 0, 1) := by decide +kernel
theorem d_PlainRun_step_10 : decode b_PlainRun_step 10 = .ok (.getfield 42, 3) := by decide +kernel
theorem d_PlainRun_step_13 : decode b_PlainRun_step 13 = .ok (.istore_n 1, 1) := by decide +kernel
theorem d_PlainRun_step_14 : decode b_PlainRun_step 14 = .ok (.aload_n 0, 1) := by decide +kernel
theorem d_PlainRun_step_15 : decode b_PlainRun_step 15 = .ok (.aload_n 0, 1) := by decide +kernel
theorem d_PlainRun_step_16 : decode b_PlainRun_step 16 = .ok (.getfield 50, 3) := by decide +kernel
theorem d_PlainRun_step_19 : decode b_PlainRun_step 19 = .ok (.iload_n 1, 1) := by decide +kernel
theorem d_PlainRun_step_20 : decode b_PlainRun_step 20 = .ok (.invokevirtual 54, 3) := by decide +kernel
theorem d_PlainRun_step_23 : decode b_PlainRun_step 23 = .ok (.ifCond .eq 16, 3) := by decide +kernel
theorem d_PlainRun_step_26 : decode b_PlainRun_step 26 = .ok (.aload_n 0, 1) := by decide +kernel
theorem d_PlainRun_step_27 : decode b_PlainRun_step 27 = .ok (.iload_n 1, 1) := by decide +kernel
theorem d_PlainRun_step_28 : decode b_PlainRun_step 28 = .ok (.aload_n 0, 1) := by decide +kernel
theorem d_PlainRun_step_29 : decode b_PlainRun_step 29 = .ok (.iload_n 1, 1) := by decide +kernel
theorem d_PlainRun_step_30 : decode b_PlainRun_step 30 = .ok (.invokevirtual 60, 3) := by decide +kernel
theorem d_PlainRun_step_33 : decode b_PlainRun_step 33 = .ok (.invokevirtual 63, 3) := by decide +kernel
theorem d_PlainRun_step_36 : decode b_PlainRun_step 36 = .ok (.goto 6, 3) := by decide +kernel
theorem d_PlainRun_step_39 : decode b_PlainRun_step 39 = .ok (.iload_n 1, 1) := by decide +kernel
theorem d_PlainRun_step_40 : decode b_PlainRun_step 40 = .ok (.iconst 1, 1) := by decide +kernel
theorem d_PlainRun_step_41 : decode b_PlainRun_step 41 = .ok (.iadd, 1) := by decide +kernel
theorem d_PlainRun_step_42 : decode b_PlainRun_step 42 = .ok (.putfield 42, 3) := by decide +kernel
theorem d_PlainRun_step_45 : decode b_PlainRun_step 45 = .ok (.aload_n 0, 1) := by decide +kernel
theorem d_PlainRun_step_46 : decode b_PlainRun_step 46 = .ok (.iload_n 1, 1) := by decide +kernel
theorem d_PlainRun_step_47 : decode b_PlainRun_step 47 = .ok (.invokevirtual 67, 3) := by decide +kernel
theorem d_PlainRun_step_50 : decode b_PlainRun_step 50 = .ok (.iconst 1, 1) := by decide +kernel
theorem d_PlainRun_step_51 : decode b_PlainRun_step 51 = .ok (.ireturn, 1) := by decide +kernel
theorem d_SlippedStreams_plain_0 : decode b_SlippedStreams_plain 0 = .ok (.iload_n 1, 1) := by decide +kernel
theorem d_SlippedStreams_plain_1 : decode b_SlippedStreams_plain 1 = .ok (.invokestatic 82, 3) := by decide +kernel
theorem d_SlippedStreams_plain_4 : decode b_SlippedStreams_plain 4 = .ok (.ifCond .eq 14, 3) := by decide +kernel
theorem d_SlippedStreams_plain_7 : decode b_SlippedStreams_plain 7 = .ok (.aload_n 0, 1) := by decide +kernel
theorem d_SlippedStreams_plain_8 : decode b_SlippedStreams_plain 8 = .ok (.getfield 48, 3) := by decide +kernel
theorem d_SlippedStreams_plain_11 : decode b_SlippedStreams_plain 11 = .ok (.iload_n 1, 1) := by decide +kernel
theorem d_SlippedStreams_plain_12 : decode b_SlippedStreams_plain 12 = .ok (.invokevirtual 152, 3) := by decide +kernel
theorem d_SlippedStreams_plain_15 : decode b_SlippedStreams_plain 15 = .ok (.goto 4, 3) := by decide +kernel
theorem d_SlippedStreams_plain_18 : decode b_SlippedStreams_plain 18 = .ok (.iconst (-1), 1) := by decide +kernel
theorem d_SlippedStreams_plain_19 : decode b_SlippedStreams_plain 19 = .ok (.ireturn, 1) := by decide +kernel
theorem d_SlippedStreams_outputs_0 : decode b_SlippedStreams_outputs 0 = .ok (.iload_n 1, 1) := by decide +kernel
theorem d_SlippedStreams_outputs_1 : decode b_SlippedStreams_outputs 1 = .ok (.ifCond .eq 16, 3) := by decide +kernel
theorem d_SlippedStreams_outputs_4 : decode b_SlippedStreams_outputs 4 = .ok (.aload_n 0, 1) := by decide +kernel
theorem d_SlippedStreams_outputs_5 : decode b_SlippedStreams_outputs 5 = .ok (.getfield 48, 3) := by decide +kernel
theorem d_SlippedStreams_outputs_8 : decode b_SlippedStreams_outputs 8 = .ok (.getfield 153, 3) := by decide +kernel
theorem d_SlippedStreams_outputs_11 : decode b_SlippedStreams_outputs 11 = .ok (.getfield 157, 3) := by decide +kernel
theorem d_SlippedStreams_outputs_14 : decode b_SlippedStreams_outputs 14 = .ok (.goto 13, 3) := by decide +kernel
theorem d_SlippedStreams_outputs_17 : decode b_SlippedStreams_outputs 17 = .ok (.aload_n 0, 1) := by decide +kernel
theorem d_SlippedStreams_outputs_18 : decode b_SlippedStreams_outputs 18 = .ok (.getfield 39, 3) := by decide +kernel
theorem d_SlippedStreams_outputs_21 : decode b_SlippedStreams_outputs 21 = .ok (.getfield 162, 3) := by decide +kernel
theorem d_SlippedStreams_outputs_24 : decode b_SlippedStreams_outputs 24 = .ok (.getfield 157, 3) := by decide +kernel
theorem d_SlippedStreams_outputs_27 : decode b_SlippedStreams_outputs 27 = .ok (.ireturn, 1) := by decide +kernel
theorem d_Written_thing_0 : decode b_Written_thing 0 = .ok (.iload_n 1, 1) := by decide +kernel
theorem d_Written_thing_1 : decode b_Written_thing 1 = .ok (.ifCond .lt 26, 3) := by decide +kernel
theorem d_Written_thing_4 : decode b_Written_thing 4 = .ok (.iload_n 1, 1) := by decide +kernel
theorem d_Written_thing_5 : decode b_Written_thing 5 = .ok (.aload_n 0, 1) := by decide +kernel
theorem d_Written_thing_6 : decode b_Written_thing 6 = .ok (.getfield 15, 3) := by decide +kernel
theorem d_Written_thing_9 : decode b_Written_thing 9 = .ok (.if_icmp .ge 18, 3) := by decide +kernel
theorem d_Written_thing_12 : decode b_Written_thing 12 = .ok (.iload_n 1, 1) := by decide +kernel
theorem d_Written_thing_13 : decode b_Written_thing 13 = .ok (.bipush 64, 2) := by decide +kernel
theorem d_Written_thing_15 : decode b_Written_thing 15 = .ok (.if_icmp .ge 12, 3) := by decide +kernel
theorem d_Written_thing_18 : decode b_Written_thing 18 = .ok (.aload_n 0, 1) := by decide +kernel
theorem d_Written_thing_19 : decode b_Written_thing 19 = .ok (.getfield 9, 3) := by decide +kernel
theorem d_Written_thing_22 : decode b_Written_thing 22 = .ok (.iload_n 1, 1) := by decide +kernel
theorem d_Written_thing_23 : decode b_Written_thing 23 = .ok (.iaload, 1) := by decide +kernel
theorem d_Written_thing_24 : decode b_Written_thing 24 = .ok (.goto 4, 3) := by decide +kernel
theorem d_Written_thing_27 : decode b_Written_thing 27 = .ok (.iconst 0, 1) := by decide +kernel
theorem d_Written_thing_28 : decode b_Written_thing 28 = .ok (.ireturn, 1) := by decide +kernel
theorem d_SlippedStreams_output_0 : decode b_SlippedStreams_output 0 = .ok (.iload_n 2, 1) := by decide +kernel
theorem d_SlippedStreams_output_1 : decode b_SlippedStreams_output 1 = .ok (.ifCond .eq 17, 3) := by decide +kernel
theorem d_SlippedStreams_output_4 : decode b_SlippedStreams_output 4 = .ok (.aload_n 0, 1) := by decide +kernel
theorem d_SlippedStreams_output_5 : decode b_SlippedStreams_output 5 = .ok (.getfield 48, 3) := by decide +kernel
theorem d_SlippedStreams_output_8 : decode b_SlippedStreams_output 8 = .ok (.getfield 153, 3) := by decide +kernel
theorem d_SlippedStreams_output_11 : decode b_SlippedStreams_output 11 = .ok (.iload_n 1, 1) := by decide +kernel
theorem d_SlippedStreams_output_12 : decode b_SlippedStreams_output 12 = .ok (.invokevirtual 163, 3) := by decide +kernel
theorem d_SlippedStreams_output_15 : decode b_SlippedStreams_output 15 = .ok (.goto 14, 3) := by decide +kernel
theorem d_SlippedStreams_output_18 : decode b_SlippedStreams_output 18 = .ok (.aload_n 0, 1) := by decide +kernel
theorem d_SlippedStreams_output_19 : decode b_SlippedStreams_output 19 = .ok (.getfield 39, 3) := by decide +kernel
theorem d_SlippedStreams_output_22 : decode b_SlippedStreams_output 22 = .ok (.getfield 162, 3) := by decide +kernel
theorem d_SlippedStreams_output_25 : decode b_SlippedStreams_output 25 = .ok (.iload_n 1, 1) := by decide +kernel
theorem d_SlippedStreams_output_26 : decode b_SlippedStreams_output 26 = .ok (.invokevirtual 163, 3) := by decide +kernel
theorem d_SlippedStreams_output_29 : decode b_SlippedStreams_output 29 = .ok (.ireturn, 1) := by decide +kernel
theorem d_SlippedStreamsModel_reckons_0 : decode b_SlippedStreamsModel_reckons 0 = .ok (.iload_n 0, 1) := by decide +kernel
theorem d_SlippedStreamsModel_reckons_1 : decode b_SlippedStreamsModel_reckons 1 = .ok (.ifCond .le 12, 3) := by decide +kernel
theorem d_SlippedStreamsModel_reckons_4 : decode b_SlippedStreamsModel_reckons 4 = .ok (.iload_n 0, 1) := by decide +kernel
theorem d_SlippedStreamsModel_reckons_5 : decode b_SlippedStreamsModel_reckons 5 = .ok (.iconst 4, 1) := by decide +kernel
theorem d_SlippedStreamsModel_reckons_6 : decode b_SlippedStreamsModel_reckons 6 = .ok (.if_icmp .ge 7, 3) := by decide +kernel
theorem d_SlippedStreamsModel_reckons_9 : decode b_SlippedStreamsModel_reckons 9 = .ok (.iconst 1, 1) := by decide +kernel
theorem d_SlippedStreamsModel_reckons_10 : decode b_SlippedStreamsModel_reckons 10 = .ok (.goto 4, 3) := by decide +kernel
theorem d_SlippedStreamsModel_reckons_13 : decode b_SlippedStreamsModel_reckons 13 = .ok (.iconst 0, 1) := by decide +kernel
theorem d_SlippedStreamsModel_reckons_14 : decode b_SlippedStreamsModel_reckons 14 = .ok (.ireturn, 1) := by decide +kernel
theorem d_SlippedStreamsModel_slice_0 : decode b_SlippedStreamsModel_slice 0 = .ok (.iconst 0, 1) := by decide +kernel
theorem d_SlippedStreamsModel_slice_1 : decode b_SlippedStreamsModel_slice 1 = .ok (.istore_n 1, 1) := by decide +kernel
theorem d_SlippedStreamsModel_slice_2 : decode b_SlippedStreamsModel_slice 2 = .ok (.iload_n 1, 1) := by decide +kernel
