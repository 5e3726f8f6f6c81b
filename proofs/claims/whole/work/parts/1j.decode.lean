theorem d_SlippedStreamsModel_moveValue_133 : decode b_SlippedStreamsModel_moveValue 133 = .ok (.ireturn, 1) := by decide +kernel
theorem d_SlippedStreamsModel_value_0 : decode b_SlippedStreamsModel_value 0 = .ok (.iload_n 1, 1) := by decide +kernel
theorem d_SlippedStreamsModel_value_1 : decode b_SlippedStreamsModel_value 1 = .ok (.invokestatic 184, 3) := by decide +kernel
theorem d_SlippedStreamsModel_value_4 : decode b_SlippedStreamsModel_value 4 = .ok (.ifCond .ne 5, 3) := by decide +kernel
theorem d_SlippedStreamsModel_value_7 : decode b_SlippedStreamsModel_value 7 = .ok (.iconst (-1), 1) := by decide +kernel
theorem d_SlippedStreamsModel_value_8 : decode b_SlippedStreamsModel_value 8 = .ok (.ireturn, 1) := by decide +kernel
theorem d_SlippedStreamsModel_value_9 : decode b_SlippedStreamsModel_value 9 = .ok (.iconst 0, 1) := by decide +kernel
theorem d_SlippedStreamsModel_value_10 : decode b_SlippedStreamsModel_value 10 = .ok (.istore_n 2, 1) := by decide +kernel
theorem d_SlippedStreamsModel_value_11 : decode b_SlippedStreamsModel_value 11 = .ok (.iload_n 2, 1) := by decide +kernel
theorem d_SlippedStreamsModel_value_12 : decode b_SlippedStreamsModel_value 12 = .ok (.iload_n 1, 1) := by decide +kernel
theorem d_SlippedStreamsModel_value_13 : decode b_SlippedStreamsModel_value 13 = .ok (.if_icmp .ge 17, 3) := by decide +kernel
theorem d_SlippedStreamsModel_value_16 : decode b_SlippedStreamsModel_value 16 = .ok (.aload_n 0, 1) := by decide +kernel
theorem d_SlippedStreamsModel_value_17 : decode b_SlippedStreamsModel_value 17 = .ok (.invokevirtual 191, 3) := by decide +kernel
theorem d_SlippedStreamsModel_value_20 : decode b_SlippedStreamsModel_value 20 = .ok (.ifCond .eq 10, 3) := by decide +kernel
theorem d_SlippedStreamsModel_value_23 : decode b_SlippedStreamsModel_value 23 = .ok (.iload_n 2, 1) := by decide +kernel
theorem d_SlippedStreamsModel_value_24 : decode b_SlippedStreamsModel_value 24 = .ok (.iconst 1, 1) := by decide +kernel
theorem d_SlippedStreamsModel_value_25 : decode b_SlippedStreamsModel_value 25 = .ok (.iadd, 1) := by decide +kernel
theorem d_SlippedStreamsModel_value_26 : decode b_SlippedStreamsModel_value 26 = .ok (.istore_n 2, 1) := by decide +kernel
theorem d_SlippedStreamsModel_value_27 : decode b_SlippedStreamsModel_value 27 = .ok (.goto (-16), 3) := by decide +kernel
theorem d_SlippedStreamsModel_value_30 : decode b_SlippedStreamsModel_value 30 = .ok (.iload_n 2, 1) := by decide +kernel
theorem d_SlippedStreamsModel_value_31 : decode b_SlippedStreamsModel_value 31 = .ok (.ireturn, 1) := by decide +kernel
theorem d_SlippedStreamsModel_both_0 : decode b_SlippedStreamsModel_both 0 = .ok (.iload_n 1, 1) := by decide +kernel
theorem d_SlippedStreamsModel_both_1 : decode b_SlippedStreamsModel_both 1 = .ok (.invokestatic 184, 3) := by decide +kernel
theorem d_SlippedStreamsModel_both_4 : decode b_SlippedStreamsModel_both 4 = .ok (.ifCond .ne 5, 3) := by decide +kernel
theorem d_SlippedStreamsModel_both_7 : decode b_SlippedStreamsModel_both 7 = .ok (.iconst (-1), 1) := by decide +kernel
theorem d_SlippedStreamsModel_both_8 : decode b_SlippedStreamsModel_both 8 = .ok (.ireturn, 1) := by decide +kernel
theorem d_SlippedStreamsModel_both_9 : decode b_SlippedStreamsModel_both 9 = .ok (.iconst 0, 1) := by decide +kernel
theorem d_SlippedStreamsModel_both_10 : decode b_SlippedStreamsModel_both 10 = .ok (.istore_n 2, 1) := by decide +kernel
theorem d_SlippedStreamsModel_both_11 : decode b_SlippedStreamsModel_both 11 = .ok (.iconst 0, 1) := by decide +kernel
theorem d_SlippedStreamsModel_both_12 : decode b_SlippedStreamsModel_both 12 = .ok (.istore_n 3, 1) := by decide +kernel
theorem d_SlippedStreamsModel_both_13 : decode b_SlippedStreamsModel_both 13 = .ok (.iload_n 3, 1) := by decide +kernel
theorem d_SlippedStreamsModel_both_14 : decode b_SlippedStreamsModel_both 14 = .ok (.iload_n 1, 1) := by decide +kernel
theorem d_SlippedStreamsModel_both_15 : decode b_SlippedStreamsModel_both 15 = .ok (.if_icmp .ge 63, 3) := by decide +kernel
theorem d_SlippedStreamsModel_both_18 : decode b_SlippedStreamsModel_both 18 = .ok (.aload_n 0, 1) := by decide +kernel
theorem d_SlippedStreamsModel_both_19 : decode b_SlippedStreamsModel_both 19 = .ok (.invokevirtual 187, 3) := by decide +kernel
theorem d_SlippedStreamsModel_both_22 : decode b_SlippedStreamsModel_both 22 = .ok (.ifCond .eq 9, 3) := by decide +kernel
theorem d_SlippedStreamsModel_both_25 : decode b_SlippedStreamsModel_both 25 = .ok (.iload_n 2, 1) := by decide +kernel
theorem d_SlippedStreamsModel_both_26 : decode b_SlippedStreamsModel_both 26 = .ok (.iconst 1, 1) := by decide +kernel
theorem d_SlippedStreamsModel_both_27 : decode b_SlippedStreamsModel_both 27 = .ok (.iadd, 1) := by decide +kernel
theorem d_SlippedStreamsModel_both_28 : decode b_SlippedStreamsModel_both 28 = .ok (.goto 4, 3) := by decide +kernel
theorem d_SlippedStreamsModel_both_31 : decode b_SlippedStreamsModel_both 31 = .ok (.iload_n 2, 1) := by decide +kernel
theorem d_SlippedStreamsModel_both_32 : decode b_SlippedStreamsModel_both 32 = .ok (.istore_n 2, 1) := by decide +kernel
theorem d_SlippedStreamsModel_both_33 : decode b_SlippedStreamsModel_both 33 = .ok (.aload_n 0, 1) := by decide +kernel
theorem d_SlippedStreamsModel_both_34 : decode b_SlippedStreamsModel_both 34 = .ok (.aload_n 0, 1) := by decide +kernel
theorem d_SlippedStreamsModel_both_35 : decode b_SlippedStreamsModel_both 35 = .ok (.getfield 151, 3) := by decide +kernel
theorem d_SlippedStreamsModel_both_38 : decode b_SlippedStreamsModel_both 38 = .ok (.ifCond .eq 12, 3) := by decide +kernel
theorem d_SlippedStreamsModel_both_41 : decode b_SlippedStreamsModel_both 41 = .ok (.aload_n 0, 1) := by decide +kernel
theorem d_SlippedStreamsModel_both_42 : decode b_SlippedStreamsModel_both 42 = .ok (.getfield 89, 3) := by decide +kernel
theorem d_SlippedStreamsModel_both_45 : decode b_SlippedStreamsModel_both 45 = .ok (.iconst 1, 1) := by decide +kernel
theorem d_SlippedStreamsModel_both_46 : decode b_SlippedStreamsModel_both 46 = .ok (.iadd, 1) := by decide +kernel
theorem d_SlippedStreamsModel_both_47 : decode b_SlippedStreamsModel_both 47 = .ok (.goto 7, 3) := by decide +kernel
theorem d_SlippedStreamsModel_both_50 : decode b_SlippedStreamsModel_both 50 = .ok (.aload_n 0, 1) := by decide +kernel
theorem d_SlippedStreamsModel_both_51 : decode b_SlippedStreamsModel_both 51 = .ok (.getfield 89, 3) := by decide +kernel
theorem d_SlippedStreamsModel_both_54 : decode b_SlippedStreamsModel_both 54 = .ok (.putfield 89, 3) := by decide +kernel
theorem d_SlippedStreamsModel_both_57 : decode b_SlippedStreamsModel_both 57 = .ok (.aload_n 0, 1) := by decide +kernel
theorem d_SlippedStreamsModel_both_58 : decode b_SlippedStreamsModel_both 58 = .ok (.invokevirtual 191, 3) := by decide +kernel
theorem d_SlippedStreamsModel_both_61 : decode b_SlippedStreamsModel_both 61 = .ok (.ifCond .eq 9, 3) := by decide +kernel
theorem d_SlippedStreamsModel_both_64 : decode b_SlippedStreamsModel_both 64 = .ok (.iload_n 2, 1) := by decide +kernel
theorem d_SlippedStreamsModel_both_65 : decode b_SlippedStreamsModel_both 65 = .ok (.iconst 1, 1) := by decide +kernel
theorem d_SlippedStreamsModel_both_66 : decode b_SlippedStreamsModel_both 66 = .ok (.iadd, 1) := by decide +kernel
theorem d_SlippedStreamsModel_both_67 : decode b_SlippedStreamsModel_both 67 = .ok (.goto 4, 3) := by decide +kernel
theorem d_SlippedStreamsModel_both_70 : decode b_SlippedStreamsModel_both 70 = .ok (.iload_n 2, 1) := by decide +kernel
theorem d_SlippedStreamsModel_both_71 : decode b_SlippedStreamsModel_both 71 = .ok (.istore_n 2, 1) := by decide +kernel
theorem d_SlippedStreamsModel_both_72 : decode b_SlippedStreamsModel_both 72 = .ok (.iinc 3 1, 3) := by decide +kernel
theorem d_SlippedStreamsModel_both_75 : decode b_SlippedStreamsModel_both 75 = .ok (.goto (-62), 3) := by decide +kernel
theorem d_SlippedStreamsModel_both_78 : decode b_SlippedStreamsModel_both 78 = .ok (.iload_n 2, 1) := by decide +kernel
theorem d_SlippedStreamsModel_both_79 : decode b_SlippedStreamsModel_both 79 = .ok (.ireturn, 1) := by decide +kernel
theorem d_SlippedStreamsModel_place_0 : decode b_SlippedStreamsModel_place 0 = .ok (.iload_n 1, 1) := by decide +kernel
theorem d_SlippedStreamsModel_place_1 : decode b_SlippedStreamsModel_place 1 = .ok (.ifCond .eq 8, 3) := by decide +kernel
theorem d_SlippedStreamsModel_place_4 : decode b_SlippedStreamsModel_place 4 = .ok (.iload_n 1, 1) := by decide +kernel
theorem d_SlippedStreamsModel_place_5 : decode b_SlippedStreamsModel_place 5 = .ok (.iconst 1, 1) := by decide +kernel
theorem d_SlippedStreamsModel_place_6 : decode b_SlippedStreamsModel_place 6 = .ok (.if_icmp .ne 12, 3) := by decide +kernel
theorem d_SlippedStreamsModel_place_9 : decode b_SlippedStreamsModel_place 9 = .ok (.aload_n 0, 1) := by decide +kernel
theorem d_SlippedStreamsModel_place_10 : decode b_SlippedStreamsModel_place 10 = .ok (.getfield 29, 3) := by decide +kernel
theorem d_SlippedStreamsModel_place_13 : decode b_SlippedStreamsModel_place 13 = .ok (.iload_n 1, 1) := by decide +kernel
theorem d_SlippedStreamsModel_place_14 : decode b_SlippedStreamsModel_place 14 = .ok (.iaload, 1) := by decide +kernel
theorem d_SlippedStreamsModel_place_15 : decode b_SlippedStreamsModel_place 15 = .ok (.goto 7, 3) := by decide +kernel
theorem d_SlippedStreamsModel_place_18 : decode b_SlippedStreamsModel_place 18 = .ok (.aload_n 0, 1) := by decide +kernel
theorem d_SlippedStreamsModel_place_19 : decode b_SlippedStreamsModel_place 19 = .ok (.getfield 92, 3) := by decide +kernel
theorem d_SlippedStreamsModel_place_22 : decode b_SlippedStreamsModel_place 22 = .ok (.istore_n 2, 1) := by decide +kernel
theorem d_SlippedStreamsModel_place_23 : decode b_SlippedStreamsModel_place 23 = .ok (.iload_n 2, 1) := by decide +kernel
theorem d_SlippedStreamsModel_place_24 : decode b_SlippedStreamsModel_place 24 = .ok (.aload_n 0, 1) := by decide +kernel
theorem d_SlippedStreamsModel_place_25 : decode b_SlippedStreamsModel_place 25 = .ok (.getfield 62, 3) := by decide +kernel
theorem d_SlippedStreamsModel_place_28 : decode b_SlippedStreamsModel_place 28 = .ok (.if_icmp .ge 7, 3) := by decide +kernel
theorem d_SlippedStreamsModel_place_31 : decode b_SlippedStreamsModel_place 31 = .ok (.iload_n 2, 1) := by decide +kernel
theorem d_SlippedStreamsModel_place_32 : decode b_SlippedStreamsModel_place 32 = .ok (.goto 7, 3) := by decide +kernel
theorem d_SlippedStreamsModel_place_35 : decode b_SlippedStreamsModel_place 35 = .ok (.aload_n 0, 1) := by decide +kernel
theorem d_SlippedStreamsModel_place_36 : decode b_SlippedStreamsModel_place 36 = .ok (.getfield 62, 3) := by decide +kernel
theorem d_SlippedStreamsModel_place_39 : decode b_SlippedStreamsModel_place 39 = .ok (.ireturn, 1) := by decide +kernel
theorem d_SlippedStreamsModel_slip_0 : decode b_SlippedStreamsModel_slip 0 = .ok (.aload_n 0, 1) := by decide +kernel
theorem d_SlippedStreamsModel_slip_1 : decode b_SlippedStreamsModel_slip 1 = .ok (.getfield 32, 3) := by decide +kernel
theorem d_SlippedStreamsModel_slip_4 : decode b_SlippedStreamsModel_slip 4 = .ok (.iconst 0, 1) := by decide +kernel
theorem d_SlippedStreamsModel_slip_5 : decode b_SlippedStreamsModel_slip 5 = .ok (.iaload, 1) := by decide +kernel
theorem d_SlippedStreamsModel_slip_6 : decode b_SlippedStreamsModel_slip 6 = .ok (.aload_n 0, 1) := by decide +kernel
theorem d_SlippedStreamsModel_slip_7 : decode b_SlippedStreamsModel_slip 7 = .ok (.getfield 32, 3) := by decide +kernel
theorem d_SlippedStreamsModel_slip_10 : decode b_SlippedStreamsModel_slip 10 = .ok (.iconst 1, 1) := by decide +kernel
theorem d_SlippedStreamsModel_slip_11 : decode b_SlippedStreamsModel_slip 11 = .ok (.iaload, 1) := by decide +kernel
theorem d_SlippedStreamsModel_slip_12 : decode b_SlippedStreamsModel_slip 12 = .ok (.isub, 1) := by decide +kernel
theorem d_SlippedStreamsModel_slip_13 : decode b_SlippedStreamsModel_slip 13 = .ok (.ireturn, 1) := by decide +kernel
theorem d_SlippedStreamsModel_queue_0 : decode b_SlippedStreamsModel_queue 0 = .ok (.iload_n 1, 1) := by decide +kernel
theorem d_SlippedStreamsModel_queue_1 : decode b_SlippedStreamsModel_queue 1 = .ok (.ifCond .lt 8, 3) := by decide +kernel
theorem d_SlippedStreamsModel_queue_4 : decode b_SlippedStreamsModel_queue 4 = .ok (.iload_n 1, 1) := by decide +kernel
theorem d_SlippedStreamsModel_queue_5 : decode b_SlippedStreamsModel_queue 5 = .ok (.iconst 5, 1) := by decide +kernel
theorem d_SlippedStreamsModel_queue_6 : decode b_SlippedStreamsModel_queue 6 = .ok (.if_icmp .le 7, 3) := by decide +kernel
theorem d_SlippedStreamsModel_queue_9 : decode b_SlippedStreamsModel_queue 9 = .ok (.iconst (-1), 1) := by decide +kernel
theorem d_SlippedStreamsModel_queue_10 : decode b_SlippedStreamsModel_queue 10 = .ok (.goto 21, 3) := by decide +kernel
theorem d_SlippedStreamsModel_queue_13 : decode b_SlippedStreamsModel_queue 13 = .ok (.iload_n 1, 1) := by decide +kernel
theorem d_SlippedStreamsModel_queue_14 : decode b_SlippedStreamsModel_queue 14 = .ok (.iconst 5, 1) := by decide +kernel
theorem d_SlippedStreamsModel_queue_15 : decode b_SlippedStreamsModel_queue 15 = .ok (.if_icmp .ne 10, 3) := by decide +kernel
theorem d_SlippedStreamsModel_queue_18 : decode b_SlippedStreamsModel_queue 18 = .ok (.aload_n 0, 1) := by decide +kernel
theorem d_SlippedStreamsModel_queue_19 : decode b_SlippedStreamsModel_queue 19 = .ok (.getfield 82, 3) := by decide +kernel
theorem d_SlippedStreamsModel_queue_22 : decode b_SlippedStreamsModel_queue 22 = .ok (.goto 9, 3) := by decide +kernel
theorem d_SlippedStreamsModel_queue_25 : decode b_SlippedStreamsModel_queue 25 = .ok (.aload_n 0, 1) := by decide +kernel
theorem d_SlippedStreamsModel_queue_26 : decode b_SlippedStreamsModel_queue 26 = .ok (.getfield 41, 3) := by decide +kernel
theorem d_SlippedStreamsModel_queue_29 : decode b_SlippedStreamsModel_queue 29 = .ok (.iload_n 1, 1) := by decide +kernel
theorem d_SlippedStreamsModel_queue_30 : decode b_SlippedStreamsModel_queue 30 = .ok (.iaload, 1) := by decide +kernel
theorem d_SlippedStreamsModel_queue_31 : decode b_SlippedStreamsModel_queue 31 = .ok (.ireturn, 1) := by decide +kernel
theorem d_SlippedStreamsModel_register_0 : decode b_SlippedStreamsModel_register 0 = .ok (.iload_n 1, 1) := by decide +kernel
theorem d_SlippedStreamsModel_register_1 : decode b_SlippedStreamsModel_register 1 = .ok (.invokestatic 66, 3) := by decide +kernel
theorem d_SlippedStreamsModel_register_4 : decode b_SlippedStreamsModel_register 4 = .ok (.ifCond .ne 5, 3) := by decide +kernel
theorem d_SlippedStreamsModel_register_7 : decode b_SlippedStreamsModel_register 7 = .ok (.iconst 0, 1) := by decide +kernel
theorem d_SlippedStreamsModel_register_8 : decode b_SlippedStreamsModel_register 8 = .ok (.ireturn, 1) := by decide +kernel
theorem d_SlippedStreamsModel_register_9 : decode b_SlippedStreamsModel_register 9 = .ok (.iload_n 2, 1) := by decide +kernel
theorem d_SlippedStreamsModel_register_10 : decode b_SlippedStreamsModel_register 10 = .ok (.ifCond .eq 12, 3) := by decide +kernel
theorem d_SlippedStreamsModel_register_13 : decode b_SlippedStreamsModel_register 13 = .ok (.aload_n 0, 1) := by decide +kernel
theorem d_SlippedStreamsModel_register_14 : decode b_SlippedStreamsModel_register 14 = .ok (.getfield 53, 3) := by decide +kernel
theorem d_SlippedStreamsModel_register_17 : decode b_SlippedStreamsModel_register 17 = .ok (.iload_n 1, 1) := by decide +kernel
theorem d_SlippedStreamsModel_register_18 : decode b_SlippedStreamsModel_register 18 = .ok (.iaload, 1) := by decide +kernel
theorem d_SlippedStreamsModel_register_19 : decode b_SlippedStreamsModel_register 19 = .ok (.goto 25, 3) := by decide +kernel
theorem d_SlippedStreamsModel_register_22 : decode b_SlippedStreamsModel_register 22 = .ok (.aload_n 0, 1) := by decide +kernel
theorem d_SlippedStreamsModel_register_23 : decode b_SlippedStreamsModel_register 23 = .ok (.getfield 26, 3) := by decide +kernel
theorem d_SlippedStreamsModel_register_26 : decode b_SlippedStreamsModel_register 26 = .ok (.aload_n 0, 1) := by decide +kernel
theorem d_SlippedStreamsModel_register_27 : decode b_SlippedStreamsModel_register 27 = .ok (.getfield 22, 3) := by decide +kernel
theorem d_SlippedStreamsModel_register_30 : decode b_SlippedStreamsModel_register 30 = .ok (.iload_n 1, 1) := by decide +kernel
theorem d_SlippedStreamsModel_register_31 : decode b_SlippedStreamsModel_register 31 = .ok (.baload, 1) := by decide +kernel
theorem d_SlippedStreamsModel_register_32 : decode b_SlippedStreamsModel_register 32 = .ok (.ifCond .eq 7, 3) := by decide +kernel
theorem d_SlippedStreamsModel_register_35 : decode b_SlippedStreamsModel_register 35 = .ok (.iload_n 1, 1) := by decide +kernel
theorem d_SlippedStreamsModel_register_36 : decode b_SlippedStreamsModel_register 36 = .ok (.goto 7, 3) := by decide +kernel
theorem d_SlippedStreamsModel_register_39 : decode b_SlippedStreamsModel_register 39 = .ok (.bipush 8, 2) := by decide +kernel
theorem d_SlippedStreamsModel_register_41 : decode b_SlippedStreamsModel_register 41 = .ok (.iload_n 1, 1) := by decide +kernel
theorem d_SlippedStreamsModel_register_42 : decode b_SlippedStreamsModel_register 42 = .ok (.iadd, 1) := by decide +kernel
theorem d_SlippedStreamsModel_register_43 : decode b_SlippedStreamsModel_register 43 = .ok (.iaload, 1) := by decide +kernel
theorem d_SlippedStreamsModel_register_44 : decode b_SlippedStreamsModel_register 44 = .ok (.ireturn, 1) := by decide +kernel
theorem d_SlippedStreamsModel_peek_0 : decode b_SlippedStreamsModel_peek 0 = .ok (.iload_n 2, 1) := by decide +kernel
theorem d_SlippedStreamsModel_peek_1 : decode b_SlippedStreamsModel_peek 1 = .ok (.ifCond .eq 15, 3) := by decide +kernel
theorem d_SlippedStreamsModel_peek_4 : decode b_SlippedStreamsModel_peek 4 = .ok (.aload_n 0, 1) := by decide +kernel
theorem d_SlippedStreamsModel_peek_5 : decode b_SlippedStreamsModel_peek 5 = .ok (.getfield 56, 3) := by decide +kernel
theorem d_SlippedStreamsModel_peek_8 : decode b_SlippedStreamsModel_peek 8 = .ok (.iload_n 1, 1) := by decide +kernel
theorem d_SlippedStreamsModel_peek_9 : decode b_SlippedStreamsModel_peek 9 = .ok (.bipush 31, 2) := by decide +kernel
theorem d_SlippedStreamsModel_peek_11 : decode b_SlippedStreamsModel_peek 11 = .ok (.iand, 1) := by decide +kernel
theorem d_SlippedStreamsModel_peek_12 : decode b_SlippedStreamsModel_peek 12 = .ok (.iaload, 1) := by decide +kernel
theorem d_SlippedStreamsModel_peek_13 : decode b_SlippedStreamsModel_peek 13 = .ok (.goto 12, 3) := by decide +kernel
theorem d_SlippedStreamsModel_peek_16 : decode b_SlippedStreamsModel_peek 16 = .ok (.aload_n 0, 1) := by decide +kernel
theorem d_SlippedStreamsModel_peek_17 : decode b_SlippedStreamsModel_peek 17 = .ok (.getfield 35, 3) := by decide +kernel
theorem d_SlippedStreamsModel_peek_20 : decode b_SlippedStreamsModel_peek 20 = .ok (.iload_n 1, 1) := by decide +kernel
theorem d_SlippedStreamsModel_peek_21 : decode b_SlippedStreamsModel_peek 21 = .ok (.bipush 31, 2) := by decide +kernel
theorem d_SlippedStreamsModel_peek_23 : decode b_SlippedStreamsModel_peek 23 = .ok (.iand, 1) := by decide +kernel
theorem d_SlippedStreamsModel_peek_24 : decode b_SlippedStreamsModel_peek 24 = .ok (.iaload, 1) := by decide +kernel
theorem d_SlippedStreamsModel_peek_25 : decode b_SlippedStreamsModel_peek 25 = .ok (.ireturn, 1) := by decide +kernel
theorem d_SlippedStreamsModel_losses_0 : decode b_SlippedStreamsModel_losses 0 = .ok (.aload_n 0, 1) := by decide +kernel
theorem d_SlippedStreamsModel_losses_1 : decode b_SlippedStreamsModel_losses 1 = .ok (.getfield 89, 3) := by decide +kernel
theorem d_SlippedStreamsModel_losses_4 : decode b_SlippedStreamsModel_losses 4 = .ok (.ireturn, 1) := by decide +kernel
theorem d_SlippedStreamsModel_plainStep_0 : decode b_SlippedStreamsModel_plainStep 0 = .ok (.aload_n 0, 1) := by decide +kernel
theorem d_SlippedStreamsModel_plainStep_1 : decode b_SlippedStreamsModel_plainStep 1 = .ok (.getfield 92, 3) := by decide +kernel
theorem d_SlippedStreamsModel_plainStep_4 : decode b_SlippedStreamsModel_plainStep 4 = .ok (.istore_n 1, 1) := by decide +kernel
theorem d_SlippedStreamsModel_plainStep_5 : decode b_SlippedStreamsModel_plainStep 5 = .ok (.aload_n 0, 1) := by decide +kernel
theorem d_SlippedStreamsModel_plainStep_6 : decode b_SlippedStreamsModel_plainStep 6 = .ok (.getfield 7, 3) := by decide +kernel
theorem d_SlippedStreamsModel_plainStep_9 : decode b_SlippedStreamsModel_plainStep 9 = .ok (.iload_n 1, 1) := by decide +kernel
theorem d_SlippedStreamsModel_plainStep_10 : decode b_SlippedStreamsModel_plainStep 10 = .ok (.iaload, 1) := by decide +kernel
theorem d_SlippedStreamsModel_plainStep_11 : decode b_SlippedStreamsModel_plainStep 11 = .ok (.istore_n 2, 1) := by decide +kernel
theorem d_SlippedStreamsModel_plainStep_12 : decode b_SlippedStreamsModel_plainStep 12 = .ok (.iload_n 2, 1) := by decide +kernel
theorem d_SlippedStreamsModel_plainStep_13 : decode b_SlippedStreamsModel_plainStep 13 = .ok (.ifCond .ne 7, 3) := by decide +kernel
theorem d_SlippedStreamsModel_plainStep_16 : decode b_SlippedStreamsModel_plainStep 16 = .ok (.iconst 0, 1) := by decide +kernel
theorem d_SlippedStreamsModel_plainStep_17 : decode b_SlippedStreamsModel_plainStep 17 = .ok (.goto 46, 3) := by decide +kernel
theorem d_SlippedStreamsModel_plainStep_20 : decode b_SlippedStreamsModel_plainStep 20 = .ok (.iload_n 2, 1) := by decide +kernel
theorem d_SlippedStreamsModel_plainStep_21 : decode b_SlippedStreamsModel_plainStep 21 = .ok (.bipush 6, 2) := by decide +kernel
theorem d_SlippedStreamsModel_plainStep_23 : decode b_SlippedStreamsModel_plainStep 23 = .ok (.if_icmp .eq 15, 3) := by decide +kernel
theorem d_SlippedStreamsModel_plainStep_26 : decode b_SlippedStreamsModel_plainStep 26 = .ok (.iload_n 2, 1) := by decide +kernel
theorem d_SlippedStreamsModel_plainStep_27 : decode b_SlippedStreamsModel_plainStep 27 = .ok (.bipush 7, 2) := by decide +kernel
theorem d_SlippedStreamsModel_plainStep_29 : decode b_SlippedStreamsModel_plainStep 29 = .ok (.if_icmp .eq 9, 3) := by decide +kernel
theorem d_SlippedStreamsModel_plainStep_32 : decode b_SlippedStreamsModel_plainStep 32 = .ok (.iload_n 2, 1) := by decide +kernel
theorem d_SlippedStreamsModel_plainStep_33 : decode b_SlippedStreamsModel_plainStep 33 = .ok (.bipush 8, 2) := by decide +kernel
theorem d_SlippedStreamsModel_plainStep_35 : decode b_SlippedStreamsModel_plainStep 35 = .ok (.if_icmp .ne 17, 3) := by decide +kernel
theorem d_SlippedStreamsModel_plainStep_38 : decode b_SlippedStreamsModel_plainStep 38 = .ok (.aload_n 0, 1) := by decide +kernel
theorem d_SlippedStreamsModel_plainStep_39 : decode b_SlippedStreamsModel_plainStep 39 = .ok (.getfield 53, 3) := by decide +kernel
theorem d_SlippedStreamsModel_plainStep_42 : decode b_SlippedStreamsModel_plainStep 42 = .ok (.aload_n 0, 1) := by decide +kernel
theorem d_SlippedStreamsModel_plainStep_43 : decode b_SlippedStreamsModel_plainStep 43 = .ok (.getfield 13, 3) := by decide +kernel
theorem d_SlippedStreamsModel_plainStep_46 : decode b_SlippedStreamsModel_plainStep 46 = .ok (.iload_n 1, 1) := by decide +kernel
theorem d_SlippedStreamsModel_plainStep_47 : decode b_SlippedStreamsModel_plainStep 47 = .ok (.iaload, 1) := by decide +kernel
theorem d_SlippedStreamsModel_plainStep_48 : decode b_SlippedStreamsModel_plainStep 48 = .ok (.iaload, 1) := by decide +kernel
theorem d_SlippedStreamsModel_plainStep_49 : decode b_SlippedStreamsModel_plainStep 49 = .ok (.goto 14, 3) := by decide +kernel
theorem d_SlippedStreamsModel_plainStep_52 : decode b_SlippedStreamsModel_plainStep 52 = .ok (.aload_n 0, 1) := by decide +kernel
theorem d_SlippedStreamsModel_plainStep_53 : decode b_SlippedStreamsModel_plainStep 53 = .ok (.getfield 53, 3) := by decide +kernel
theorem d_SlippedStreamsModel_plainStep_56 : decode b_SlippedStreamsModel_plainStep 56 = .ok (.aload_n 0, 1) := by decide +kernel
theorem d_SlippedStreamsModel_plainStep_57 : decode b_SlippedStreamsModel_plainStep 57 = .ok (.getfield 16, 3) := by decide +kernel
theorem d_SlippedStreamsModel_plainStep_60 : decode b_SlippedStreamsModel_plainStep 60 = .ok (.iload_n 1, 1) := by decide +kernel
theorem d_SlippedStreamsModel_plainStep_61 : decode b_SlippedStreamsModel_plainStep 61 = .ok (.iaload, 1) := by decide +kernel
theorem d_SlippedStreamsModel_plainStep_62 : decode b_SlippedStreamsModel_plainStep 62 = .ok (.iaload, 1) := by decide +kernel
theorem d_SlippedStreamsModel_plainStep_63 : decode b_SlippedStreamsModel_plainStep 63 = .ok (.istore_n 3, 1) := by decide +kernel
theorem d_SlippedStreamsModel_plainStep_64 : decode b_SlippedStreamsModel_plainStep 64 = .ok (.iload_n 3, 1) := by decide +kernel
theorem d_SlippedStreamsModel_plainStep_65 : decode b_SlippedStreamsModel_plainStep 65 = .ok (.aload_n 0, 1) := by decide +kernel
theorem d_SlippedStreamsModel_plainStep_66 : decode b_SlippedStreamsModel_plainStep 66 = .ok (.getfield 19, 3) := by decide +kernel
theorem d_SlippedStreamsModel_plainStep_69 : decode b_SlippedStreamsModel_plainStep 69 = .ok (.iload_n 1, 1) := by decide +kernel
theorem d_SlippedStreamsModel_plainStep_70 : decode b_SlippedStreamsModel_plainStep 70 = .ok (.iaload, 1) := by decide +kernel
theorem d_SlippedStreamsModel_plainStep_71 : decode b_SlippedStreamsModel_plainStep 71 = .ok (.iadd, 1) := by decide +kernel
theorem d_SlippedStreamsModel_plainStep_72 : decode b_SlippedStreamsModel_plainStep 72 = .ok (.bipush 31, 2) := by decide +kernel
theorem d_SlippedStreamsModel_plainStep_74 : decode b_SlippedStreamsModel_plainStep 74 = .ok (.iand, 1) := by decide +kernel
theorem d_SlippedStreamsModel_plainStep_75 : decode b_SlippedStreamsModel_plainStep 75 = .ok (.istore 4, 2) := by decide +kernel
theorem d_SlippedStreamsModel_plainStep_77 : decode b_SlippedStreamsModel_plainStep 77 = .ok (.aload_n 0, 1) := by decide +kernel
theorem d_SlippedStreamsModel_plainStep_78 : decode b_SlippedStreamsModel_plainStep 78 = .ok (.iload_n 1, 1) := by decide +kernel
theorem d_SlippedStreamsModel_plainStep_79 : decode b_SlippedStreamsModel_plainStep 79 = .ok (.iconst 1, 1) := by decide +kernel
theorem d_SlippedStreamsModel_plainStep_80 : decode b_SlippedStreamsModel_plainStep 80 = .ok (.iadd, 1) := by decide +kernel
theorem d_SlippedStreamsModel_plainStep_81 : decode b_SlippedStreamsModel_plainStep 81 = .ok (.putfield 92, 3) := by decide +kernel
theorem d_SlippedStreamsModel_plainStep_84 : decode b_SlippedStreamsModel_plainStep 84 = .ok (.iload_n 2, 1) := by decide +kernel
theorem d_SlippedStreamsModel_plainStep_85 : decode b_SlippedStreamsModel_plainStep 85 = .ok (.ifCond .ne 23, 3) := by decide +kernel
theorem d_SlippedStreamsModel_plainStep_88 : decode b_SlippedStreamsModel_plainStep 88 = .ok (.aload_n 0, 1) := by decide +kernel
theorem d_SlippedStreamsModel_plainStep_89 : decode b_SlippedStreamsModel_plainStep 89 = .ok (.getfield 53, 3) := by decide +kernel
theorem d_SlippedStreamsModel_plainStep_92 : decode b_SlippedStreamsModel_plainStep 92 = .ok (.aload_n 0, 1) := by decide +kernel
theorem d_SlippedStreamsModel_plainStep_93 : decode b_SlippedStreamsModel_plainStep 93 = .ok (.getfield 13, 3) := by decide +kernel
theorem d_SlippedStreamsModel_plainStep_96 : decode b_SlippedStreamsModel_plainStep 96 = .ok (.iload_n 1, 1) := by decide +kernel
theorem d_SlippedStreamsModel_plainStep_97 : decode b_SlippedStreamsModel_plainStep 97 = .ok (.iaload, 1) := by decide +kernel
theorem d_SlippedStreamsModel_plainStep_98 : decode b_SlippedStreamsModel_plainStep 98 = .ok (.aload_n 0, 1) := by decide +kernel
theorem d_SlippedStreamsModel_plainStep_99 : decode b_SlippedStreamsModel_plainStep 99 = .ok (.getfield 19, 3) := by decide +kernel
theorem d_SlippedStreamsModel_plainStep_102 : decode b_SlippedStreamsModel_plainStep 102 = .ok (.iload_n 1, 1) := by decide +kernel
theorem d_SlippedStreamsModel_plainStep_103 : decode b_SlippedStreamsModel_plainStep 103 = .ok (.iaload, 1) := by decide +kernel
theorem d_SlippedStreamsModel_plainStep_104 : decode b_SlippedStreamsModel_plainStep 104 = .ok (.iastore, 1) := by decide +kernel
theorem d_SlippedStreamsModel_plainStep_105 : decode b_SlippedStreamsModel_plainStep 105 = .ok (.goto 157, 3) := by decide +kernel
theorem d_SlippedStreamsModel_plainStep_108 : decode b_SlippedStreamsModel_plainStep 108 = .ok (.iload_n 2, 1) := by decide +kernel
theorem d_SlippedStreamsModel_plainStep_109 : decode b_SlippedStreamsModel_plainStep 109 = .ok (.invokestatic 105, 3) := by decide +kernel
theorem d_SlippedStreamsModel_plainStep_112 : decode b_SlippedStreamsModel_plainStep 112 = .ok (.ifCond .eq 33, 3) := by decide +kernel
theorem d_SlippedStreamsModel_plainStep_115 : decode b_SlippedStreamsModel_plainStep 115 = .ok (.aload_n 0, 1) := by decide +kernel
theorem d_SlippedStreamsModel_plainStep_116 : decode b_SlippedStreamsModel_plainStep 116 = .ok (.getfield 53, 3) := by decide +kernel
theorem d_SlippedStreamsModel_plainStep_119 : decode b_SlippedStreamsModel_plainStep 119 = .ok (.aload_n 0, 1) := by decide +kernel
theorem d_SlippedStreamsModel_plainStep_120 : decode b_SlippedStreamsModel_plainStep 120 = .ok (.getfield 13, 3) := by decide +kernel
theorem d_SlippedStreamsModel_plainStep_123 : decode b_SlippedStreamsModel_plainStep 123 = .ok (.iload_n 1, 1) := by decide +kernel
theorem d_SlippedStreamsModel_plainStep_124 : decode b_SlippedStreamsModel_plainStep 124 = .ok (.iaload, 1) := by decide +kernel
theorem d_SlippedStreamsModel_plainStep_125 : decode b_SlippedStreamsModel_plainStep 125 = .ok (.iload_n 2, 1) := by decide +kernel
theorem d_SlippedStreamsModel_plainStep_126 : decode b_SlippedStreamsModel_plainStep 126 = .ok (.iload_n 3, 1) := by decide +kernel
theorem d_SlippedStreamsModel_plainStep_127 : decode b_SlippedStreamsModel_plainStep 127 = .ok (.aload_n 0, 1) := by decide +kernel
theorem d_SlippedStreamsModel_plainStep_128 : decode b_SlippedStreamsModel_plainStep 128 = .ok (.getfield 53, 3) := by decide +kernel
theorem d_SlippedStreamsModel_plainStep_131 : decode b_SlippedStreamsModel_plainStep 131 = .ok (.aload_n 0, 1) := by decide +kernel
theorem d_SlippedStreamsModel_plainStep_132 : decode b_SlippedStreamsModel_plainStep 132 = .ok (.getfield 19, 3) := by decide +kernel
theorem d_SlippedStreamsModel_plainStep_135 : decode b_SlippedStreamsModel_plainStep 135 = .ok (.iload_n 1, 1) := by decide +kernel
theorem d_SlippedStreamsModel_plainStep_136 : decode b_SlippedStreamsModel_plainStep 136 = .ok (.iaload, 1) := by decide +kernel
theorem d_SlippedStreamsModel_plainStep_137 : decode b_SlippedStreamsModel_plainStep 137 = .ok (.iaload, 1) := by decide +kernel
theorem d_SlippedStreamsModel_plainStep_138 : decode b_SlippedStreamsModel_plainStep 138 = .ok (.invokestatic 167, 3) := by decide +kernel
theorem d_SlippedStreamsModel_plainStep_141 : decode b_SlippedStreamsModel_plainStep 141 = .ok (.iastore, 1) := by decide +kernel
theorem d_SlippedStreamsModel_plainStep_142 : decode b_SlippedStreamsModel_plainStep 142 = .ok (.goto 120, 3) := by decide +kernel
theorem d_SlippedStreamsModel_plainStep_145 : decode b_SlippedStreamsModel_plainStep 145 = .ok (.iload_n 2, 1) := by decide +kernel
theorem d_SlippedStreamsModel_plainStep_146 : decode b_SlippedStreamsModel_plainStep 146 = .ok (.iconst 4, 1) := by decide +kernel
theorem d_SlippedStreamsModel_plainStep_147 : decode b_SlippedStreamsModel_plainStep 147 = .ok (.if_icmp .ne 24, 3) := by decide +kernel
theorem d_SlippedStreamsModel_plainStep_150 : decode b_SlippedStreamsModel_plainStep 150 = .ok (.aload_n 0, 1) := by decide +kernel
theorem d_SlippedStreamsModel_plainStep_151 : decode b_SlippedStreamsModel_plainStep 151 = .ok (.getfield 53, 3) := by decide +kernel
theorem d_SlippedStreamsModel_plainStep_154 : decode b_SlippedStreamsModel_plainStep 154 = .ok (.aload_n 0, 1) := by decide +kernel
theorem d_SlippedStreamsModel_plainStep_155 : decode b_SlippedStreamsModel_plainStep 155 = .ok (.getfield 13, 3) := by decide +kernel
theorem d_SlippedStreamsModel_plainStep_158 : decode b_SlippedStreamsModel_plainStep 158 = .ok (.iload_n 1, 1) := by decide +kernel
theorem d_SlippedStreamsModel_plainStep_159 : decode b_SlippedStreamsModel_plainStep 159 = .ok (.iaload, 1) := by decide +kernel
theorem d_SlippedStreamsModel_plainStep_160 : decode b_SlippedStreamsModel_plainStep 160 = .ok (.aload_n 0, 1) := by decide +kernel
theorem d_SlippedStreamsModel_plainStep_161 : decode b_SlippedStreamsModel_plainStep 161 = .ok (.getfield 56, 3) := by decide +kernel
theorem d_SlippedStreamsModel_plainStep_164 : decode b_SlippedStreamsModel_plainStep 164 = .ok (.iload 4, 2) := by decide +kernel
theorem d_SlippedStreamsModel_plainStep_166 : decode b_SlippedStreamsModel_plainStep 166 = .ok (.iaload, 1) := by decide +kernel
theorem d_SlippedStreamsModel_plainStep_167 : decode b_SlippedStreamsModel_plainStep 167 = .ok (.iastore, 1) := by decide +kernel
theorem d_SlippedStreamsModel_plainStep_168 : decode b_SlippedStreamsModel_plainStep 168 = .ok (.goto 94, 3) := by decide +kernel
theorem d_SlippedStreamsModel_plainStep_171 : decode b_SlippedStreamsModel_plainStep 171 = .ok (.iload_n 2, 1) := by decide +kernel
theorem d_SlippedStreamsModel_plainStep_172 : decode b_SlippedStreamsModel_plainStep 172 = .ok (.iconst 5, 1) := by decide +kernel
theorem d_SlippedStreamsModel_plainStep_173 : decode b_SlippedStreamsModel_plainStep 173 = .ok (.if_icmp .ne 24, 3) := by decide +kernel
theorem d_SlippedStreamsModel_plainStep_176 : decode b_SlippedStreamsModel_plainStep 176 = .ok (.aload_n 0, 1) := by decide +kernel
theorem d_SlippedStreamsModel_plainStep_177 : decode b_SlippedStreamsModel_plainStep 177 = .ok (.getfield 56, 3) := by decide +kernel
theorem d_SlippedStreamsModel_plainStep_180 : decode b_SlippedStreamsModel_plainStep 180 = .ok (.iload 4, 2) := by decide +kernel
theorem d_SlippedStreamsModel_plainStep_182 : decode b_SlippedStreamsModel_plainStep 182 = .ok (.aload_n 0, 1) := by decide +kernel
theorem d_SlippedStreamsModel_plainStep_183 : decode b_SlippedStreamsModel_plainStep 183 = .ok (.getfield 53, 3) := by decide +kernel
theorem d_SlippedStreamsModel_plainStep_186 : decode b_SlippedStreamsModel_plainStep 186 = .ok (.aload_n 0, 1) := by decide +kernel
theorem d_SlippedStreamsModel_plainStep_187 : decode b_SlippedStreamsModel_plainStep 187 = .ok (.getfield 13, 3) := by decide +kernel
theorem d_SlippedStreamsModel_plainStep_190 : decode b_SlippedStreamsModel_plainStep 190 = .ok (.iload_n 1, 1) := by decide +kernel
theorem d_SlippedStreamsModel_plainStep_191 : decode b_SlippedStreamsModel_plainStep 191 = .ok (.iaload, 1) := by decide +kernel
theorem d_SlippedStreamsModel_plainStep_192 : decode b_SlippedStreamsModel_plainStep 192 = .ok (.iaload, 1) := by decide +kernel
theorem d_SlippedStreamsModel_plainStep_193 : decode b_SlippedStreamsModel_plainStep 193 = .ok (.iastore, 1) := by decide +kernel
theorem d_SlippedStreamsModel_plainStep_194 : decode b_SlippedStreamsModel_plainStep 194 = .ok (.goto 68, 3) := by decide +kernel
theorem d_SlippedStreamsModel_plainStep_197 : decode b_SlippedStreamsModel_plainStep 197 = .ok (.iload_n 2, 1) := by decide +kernel
theorem d_SlippedStreamsModel_plainStep_198 : decode b_SlippedStreamsModel_plainStep 198 = .ok (.bipush 8, 2) := by decide +kernel
theorem d_SlippedStreamsModel_plainStep_200 : decode b_SlippedStreamsModel_plainStep 200 = .ok (.if_icmp .ne 27, 3) := by decide +kernel
theorem d_SlippedStreamsModel_plainStep_203 : decode b_SlippedStreamsModel_plainStep 203 = .ok (.aload_n 0, 1) := by decide +kernel
theorem d_SlippedStreamsModel_plainStep_204 : decode b_SlippedStreamsModel_plainStep 204 = .ok (.bipush 64, 2) := by decide +kernel
theorem d_SlippedStreamsModel_plainStep_206 : decode b_SlippedStreamsModel_plainStep 206 = .ok (.aload_n 0, 1) := by decide +kernel
theorem d_SlippedStreamsModel_plainStep_207 : decode b_SlippedStreamsModel_plainStep 207 = .ok (.getfield 98, 3) := by decide +kernel
theorem d_SlippedStreamsModel_plainStep_210 : decode b_SlippedStreamsModel_plainStep 210 = .ok (.iload_n 3, 1) := by decide +kernel
theorem d_SlippedStreamsModel_plainStep_211 : decode b_SlippedStreamsModel_plainStep 211 = .ok (.invokevirtual 174, 3) := by decide +kernel
theorem d_SlippedStreamsModel_plainStep_214 : decode b_SlippedStreamsModel_plainStep 214 = .ok (.aload_n 0, 1) := by decide +kernel
theorem d_SlippedStreamsModel_plainStep_215 : decode b_SlippedStreamsModel_plainStep 215 = .ok (.aload_n 0, 1) := by decide +kernel
theorem d_SlippedStreamsModel_plainStep_216 : decode b_SlippedStreamsModel_plainStep 216 = .ok (.getfield 98, 3) := by decide +kernel
theorem d_SlippedStreamsModel_plainStep_219 : decode b_SlippedStreamsModel_plainStep 219 = .ok (.iconst 1, 1) := by decide +kernel
theorem d_SlippedStreamsModel_plainStep_220 : decode b_SlippedStreamsModel_plainStep 220 = .ok (.iadd, 1) := by decide +kernel
theorem d_SlippedStreamsModel_plainStep_221 : decode b_SlippedStreamsModel_plainStep 221 = .ok (.putfield 98, 3) := by decide +kernel
theorem d_SlippedStreamsModel_plainStep_224 : decode b_SlippedStreamsModel_plainStep 224 = .ok (.goto 38, 3) := by decide +kernel
theorem d_SlippedStreamsModel_plainStep_227 : decode b_SlippedStreamsModel_plainStep 227 = .ok (.aload_n 0, 1) := by decide +kernel
theorem d_SlippedStreamsModel_plainStep_228 : decode b_SlippedStreamsModel_plainStep 228 = .ok (.iload_n 2, 1) := by decide +kernel
theorem d_SlippedStreamsModel_plainStep_229 : decode b_SlippedStreamsModel_plainStep 229 = .ok (.iload_n 3, 1) := by decide +kernel
theorem d_SlippedStreamsModel_plainStep_230 : decode b_SlippedStreamsModel_plainStep 230 = .ok (.aload_n 0, 1) := by decide +kernel
theorem d_SlippedStreamsModel_plainStep_231 : decode b_SlippedStreamsModel_plainStep 231 = .ok (.getfield 53, 3) := by decide +kernel
theorem d_SlippedStreamsModel_plainStep_234 : decode b_SlippedStreamsModel_plainStep 234 = .ok (.aload_n 0, 1) := by decide +kernel
theorem d_SlippedStreamsModel_plainStep_235 : decode b_SlippedStreamsModel_plainStep 235 = .ok (.getfield 16, 3) := by decide +kernel
theorem d_SlippedStreamsModel_plainStep_238 : decode b_SlippedStreamsModel_plainStep 238 = .ok (.iload_n 1, 1) := by decide +kernel
theorem d_SlippedStreamsModel_plainStep_239 : decode b_SlippedStreamsModel_plainStep 239 = .ok (.iaload, 1) := by decide +kernel
theorem d_SlippedStreamsModel_plainStep_240 : decode b_SlippedStreamsModel_plainStep 240 = .ok (.iaload, 1) := by decide +kernel
theorem d_SlippedStreamsModel_plainStep_241 : decode b_SlippedStreamsModel_plainStep 241 = .ok (.invokestatic 163, 3) := by decide +kernel
theorem d_SlippedStreamsModel_plainStep_244 : decode b_SlippedStreamsModel_plainStep 244 = .ok (.ifCond .eq 12, 3) := by decide +kernel
theorem d_SlippedStreamsModel_plainStep_247 : decode b_SlippedStreamsModel_plainStep 247 = .ok (.aload_n 0, 1) := by decide +kernel
theorem d_SlippedStreamsModel_plainStep_248 : decode b_SlippedStreamsModel_plainStep 248 = .ok (.getfield 19, 3) := by decide +kernel
theorem d_SlippedStreamsModel_plainStep_251 : decode b_SlippedStreamsModel_plainStep 251 = .ok (.iload_n 1, 1) := by decide +kernel
theorem d_SlippedStreamsModel_plainStep_252 : decode b_SlippedStreamsModel_plainStep 252 = .ok (.iaload, 1) := by decide +kernel
theorem d_SlippedStreamsModel_plainStep_253 : decode b_SlippedStreamsModel_plainStep 253 = .ok (.goto 6, 3) := by decide +kernel
theorem d_SlippedStreamsModel_plainStep_256 : decode b_SlippedStreamsModel_plainStep 256 = .ok (.iload_n 1, 1) := by decide +kernel
theorem d_SlippedStreamsModel_plainStep_257 : decode b_SlippedStreamsModel_plainStep 257 = .ok (.iconst 1, 1) := by decide +kernel
theorem d_SlippedStreamsModel_plainStep_258 : decode b_SlippedStreamsModel_plainStep 258 = .ok (.iadd, 1) := by decide +kernel
theorem d_SlippedStreamsModel_plainStep_259 : decode b_SlippedStreamsModel_plainStep 259 = .ok (.putfield 92, 3) := by decide +kernel
theorem d_SlippedStreamsModel_plainStep_262 : decode b_SlippedStreamsModel_plainStep 262 = .ok (.return_, 1) := by decide +kernel
theorem d_SlippedStreamsModel_plain_0 : decode b_SlippedStreamsModel_plain 0 = .ok (.iload_n 1, 1) := by decide +kernel
theorem d_SlippedStreamsModel_plain_1 : decode b_SlippedStreamsModel_plain 1 = .ok (.invokestatic 184, 3) := by decide +kernel
theorem d_SlippedStreamsModel_plain_4 : decode b_SlippedStreamsModel_plain 4 = .ok (.ifCond .ne 5, 3) := by decide +kernel
theorem d_SlippedStreamsModel_plain_7 : decode b_SlippedStreamsModel_plain 7 = .ok (.iconst (-1), 1) := by decide +kernel
theorem d_SlippedStreamsModel_plain_8 : decode b_SlippedStreamsModel_plain 8 = .ok (.ireturn, 1) := by decide +kernel
theorem d_SlippedStreamsModel_plain_9 : decode b_SlippedStreamsModel_plain 9 = .ok (.iconst 0, 1) := by decide +kernel
theorem d_SlippedStreamsModel_plain_10 : decode b_SlippedStreamsModel_plain 10 = .ok (.istore_n 2, 1) := by decide +kernel
theorem d_SlippedStreamsModel_plain_11 : decode b_SlippedStreamsModel_plain 11 = .ok (.iload_n 2, 1) := by decide +kernel
theorem d_SlippedStreamsModel_plain_12 : decode b_SlippedStreamsModel_plain 12 = .ok (.iload_n 1, 1) := by decide +kernel
theorem d_SlippedStreamsModel_plain_13 : decode b_SlippedStreamsModel_plain 13 = .ok (.if_icmp .ge 25, 3) := by decide +kernel
theorem d_SlippedStreamsModel_plain_16 : decode b_SlippedStreamsModel_plain 16 = .ok (.aload_n 0, 1) := by decide +kernel
theorem d_SlippedStreamsModel_plain_17 : decode b_SlippedStreamsModel_plain 17 = .ok (.getfield 92, 3) := by decide +kernel
theorem d_SlippedStreamsModel_plain_20 : decode b_SlippedStreamsModel_plain 20 = .ok (.aload_n 0, 1) := by decide +kernel
theorem d_SlippedStreamsModel_plain_21 : decode b_SlippedStreamsModel_plain 21 = .ok (.getfield 62, 3) := by decide +kernel
theorem d_SlippedStreamsModel_plain_24 : decode b_SlippedStreamsModel_plain 24 = .ok (.if_icmp .ge 14, 3) := by decide +kernel
theorem d_SlippedStreamsModel_plain_27 : decode b_SlippedStreamsModel_plain 27 = .ok (.aload_n 0, 1) := by decide +kernel
theorem d_SlippedStreamsModel_plain_28 : decode b_SlippedStreamsModel_plain 28 = .ok (.invokevirtual 194, 3) := by decide +kernel
theorem d_SlippedStreamsModel_plain_31 : decode b_SlippedStreamsModel_plain 31 = .ok (.iload_n 2, 1) := by decide +kernel
theorem d_SlippedStreamsModel_plain_32 : decode b_SlippedStreamsModel_plain 32 = .ok (.iconst 1, 1) := by decide +kernel
theorem d_SlippedStreamsModel_plain_33 : decode b_SlippedStreamsModel_plain 33 = .ok (.iadd, 1) := by decide +kernel
theorem d_SlippedStreamsModel_plain_34 : decode b_SlippedStreamsModel_plain 34 = .ok (.istore_n 2, 1) := by decide +kernel
theorem d_SlippedStreamsModel_plain_35 : decode b_SlippedStreamsModel_plain 35 = .ok (.goto (-24), 3) := by decide +kernel
theorem d_SlippedStreamsModel_plain_38 : decode b_SlippedStreamsModel_plain 38 = .ok (.iload_n 2, 1) := by decide +kernel
theorem d_SlippedStreamsModel_plain_39 : decode b_SlippedStreamsModel_plain 39 = .ok (.ireturn, 1) := by decide +kernel
theorem d_SlippedStreamsModel_outputs_0 : decode b_SlippedStreamsModel_outputs 0 = .ok (.iload_n 1, 1) := by decide +kernel
theorem d_SlippedStreamsModel_outputs_1 : decode b_SlippedStreamsModel_outputs 1 = .ok (.ifCond .eq 10, 3) := by decide +kernel
theorem d_SlippedStreamsModel_outputs_4 : decode b_SlippedStreamsModel_outputs 4 = .ok (.aload_n 0, 1) := by decide +kernel
theorem d_SlippedStreamsModel_outputs_5 : decode b_SlippedStreamsModel_outputs 5 = .ok (.getfield 98, 3) := by decide +kernel
theorem d_SlippedStreamsModel_outputs_8 : decode b_SlippedStreamsModel_outputs 8 = .ok (.goto 7, 3) := by decide +kernel
theorem d_SlippedStreamsModel_outputs_11 : decode b_SlippedStreamsModel_outputs 11 = .ok (.aload_n 0, 1) := by decide +kernel
theorem d_SlippedStreamsModel_outputs_12 : decode b_SlippedStreamsModel_outputs 12 = .ok (.getfield 95, 3) := by decide +kernel
theorem d_SlippedStreamsModel_outputs_15 : decode b_SlippedStreamsModel_outputs 15 = .ok (.ireturn, 1) := by decide +kernel
theorem d_SlippedStreamsModel_output_0 : decode b_SlippedStreamsModel_output 0 = .ok (.iload_n 2, 1) := by decide +kernel
theorem d_SlippedStreamsModel_output_1 : decode b_SlippedStreamsModel_output 1 = .ok (.ifCond .eq 10, 3) := by decide +kernel
theorem d_SlippedStreamsModel_output_4 : decode b_SlippedStreamsModel_output 4 = .ok (.aload_n 0, 1) := by decide +kernel
theorem d_SlippedStreamsModel_output_5 : decode b_SlippedStreamsModel_output 5 = .ok (.getfield 98, 3) := by decide +kernel
theorem d_SlippedStreamsModel_output_8 : decode b_SlippedStreamsModel_output 8 = .ok (.goto 7, 3) := by decide +kernel
theorem d_SlippedStreamsModel_output_11 : decode b_SlippedStreamsModel_output 11 = .ok (.aload_n 0, 1) := by decide +kernel
theorem d_SlippedStreamsModel_output_12 : decode b_SlippedStreamsModel_output 12 = .ok (.getfield 95, 3) := by decide +kernel
theorem d_SlippedStreamsModel_output_15 : decode b_SlippedStreamsModel_output 15 = .ok (.istore_n 3, 1) := by decide +kernel
theorem d_SlippedStreamsModel_output_16 : decode b_SlippedStreamsModel_output 16 = .ok (.iload_n 1, 1) := by decide +kernel
theorem d_SlippedStreamsModel_output_17 : decode b_SlippedStreamsModel_output 17 = .ok (.ifCond .lt 14, 3) := by decide +kernel
theorem d_SlippedStreamsModel_output_20 : decode b_SlippedStreamsModel_output 20 = .ok (.iload_n 1, 1) := by decide +kernel
theorem d_SlippedStreamsModel_output_21 : decode b_SlippedStreamsModel_output 21 = .ok (.iload_n 3, 1) := by decide +kernel
theorem d_SlippedStreamsModel_output_22 : decode b_SlippedStreamsModel_output 22 = .ok (.if_icmp .ge 9, 3) := by decide +kernel
theorem d_SlippedStreamsModel_output_25 : decode b_SlippedStreamsModel_output 25 = .ok (.iload_n 1, 1) := by decide +kernel
theorem d_SlippedStreamsModel_output_26 : decode b_SlippedStreamsModel_output 26 = .ok (.bipush 63, 2) := by decide +kernel
theorem d_SlippedStreamsModel_output_28 : decode b_SlippedStreamsModel_output 28 = .ok (.if_icmp .le 7, 3) := by decide +kernel
theorem d_SlippedStreamsModel_output_31 : decode b_SlippedStreamsModel_output 31 = .ok (.iconst 0, 1) := by decide +kernel
theorem d_SlippedStreamsModel_output_32 : decode b_SlippedStreamsModel_output 32 = .ok (.goto 20, 3) := by decide +kernel
theorem d_SlippedStreamsModel_output_35 : decode b_SlippedStreamsModel_output 35 = .ok (.aload_n 0, 1) := by decide +kernel
theorem d_SlippedStreamsModel_output_36 : decode b_SlippedStreamsModel_output 36 = .ok (.getfield 59, 3) := by decide +kernel
theorem d_SlippedStreamsModel_output_39 : decode b_SlippedStreamsModel_output 39 = .ok (.iload_n 2, 1) := by decide +kernel
theorem d_SlippedStreamsModel_output_40 : decode b_SlippedStreamsModel_output 40 = .ok (.ifCond .eq 8, 3) := by decide +kernel
theorem d_SlippedStreamsModel_output_43 : decode b_SlippedStreamsModel_output 43 = .ok (.bipush 64, 2) := by decide +kernel
theorem d_SlippedStreamsModel_output_45 : decode b_SlippedStreamsModel_output 45 = .ok (.goto 4, 3) := by decide +kernel
theorem d_SlippedStreamsModel_output_48 : decode b_SlippedStreamsModel_output 48 = .ok (.iconst 0, 1) := by decide +kernel
theorem d_SlippedStreamsModel_output_49 : decode b_SlippedStreamsModel_output 49 = .ok (.iload_n 1, 1) := by decide +kernel
theorem d_SlippedStreamsModel_output_50 : decode b_SlippedStreamsModel_output 50 = .ok (.iadd, 1) := by decide +kernel
theorem d_SlippedStreamsModel_output_51 : decode b_SlippedStreamsModel_output 51 = .ok (.iaload, 1) := by decide +kernel
theorem d_SlippedStreamsModel_output_52 : decode b_SlippedStreamsModel_output 52 = .ok (.ireturn, 1) := by decide +kernel
