theorem d_Fifo_hasRoomFor_1 : decode b_Fifo_hasRoomFor 1 = .ok (.getfield 17, 3) := by decide +kernel
theorem d_Fifo_hasRoomFor_4 : decode b_Fifo_hasRoomFor 4 = .ok (.iload_n 1, 1) := by decide +kernel
theorem d_Fifo_hasRoomFor_5 : decode b_Fifo_hasRoomFor 5 = .ok (.iadd, 1) := by decide +kernel
theorem d_Fifo_hasRoomFor_6 : decode b_Fifo_hasRoomFor 6 = .ok (.aload_n 0, 1) := by decide +kernel
theorem d_Fifo_hasRoomFor_7 : decode b_Fifo_hasRoomFor 7 = .ok (.getfield 7, 3) := by decide +kernel
theorem d_Fifo_hasRoomFor_10 : decode b_Fifo_hasRoomFor 10 = .ok (.arraylength, 1) := by decide +kernel
theorem d_Fifo_hasRoomFor_11 : decode b_Fifo_hasRoomFor 11 = .ok (.if_icmp .gt 7, 3) := by decide +kernel
theorem d_Fifo_hasRoomFor_14 : decode b_Fifo_hasRoomFor 14 = .ok (.iconst 1, 1) := by decide +kernel
theorem d_Fifo_hasRoomFor_15 : decode b_Fifo_hasRoomFor 15 = .ok (.goto 4, 3) := by decide +kernel
theorem d_Fifo_hasRoomFor_18 : decode b_Fifo_hasRoomFor 18 = .ok (.iconst 0, 1) := by decide +kernel
theorem d_Fifo_hasRoomFor_19 : decode b_Fifo_hasRoomFor 19 = .ok (.ireturn, 1) := by decide +kernel
theorem d_Fifo_put_0 : decode b_Fifo_put 0 = .ok (.aload_n 0, 1) := by decide +kernel
theorem d_Fifo_put_1 : decode b_Fifo_put 1 = .ok (.getfield 13, 3) := by decide +kernel
theorem d_Fifo_put_4 : decode b_Fifo_put 4 = .ok (.aload_n 0, 1) := by decide +kernel
theorem d_Fifo_put_5 : decode b_Fifo_put 5 = .ok (.getfield 17, 3) := by decide +kernel
theorem d_Fifo_put_8 : decode b_Fifo_put 8 = .ok (.iadd, 1) := by decide +kernel
theorem d_Fifo_put_9 : decode b_Fifo_put 9 = .ok (.istore_n 2, 1) := by decide +kernel
theorem d_Fifo_put_10 : decode b_Fifo_put 10 = .ok (.aload_n 0, 1) := by decide +kernel
theorem d_Fifo_put_11 : decode b_Fifo_put 11 = .ok (.getfield 7, 3) := by decide +kernel
theorem d_Fifo_put_14 : decode b_Fifo_put 14 = .ok (.iload_n 2, 1) := by decide +kernel
theorem d_Fifo_put_15 : decode b_Fifo_put 15 = .ok (.aload_n 0, 1) := by decide +kernel
theorem d_Fifo_put_16 : decode b_Fifo_put 16 = .ok (.getfield 7, 3) := by decide +kernel
theorem d_Fifo_put_19 : decode b_Fifo_put 19 = .ok (.arraylength, 1) := by decide +kernel
theorem d_Fifo_put_20 : decode b_Fifo_put 20 = .ok (.if_icmp .ge 7, 3) := by decide +kernel
theorem d_Fifo_put_23 : decode b_Fifo_put 23 = .ok (.iload_n 2, 1) := by decide +kernel
theorem d_Fifo_put_24 : decode b_Fifo_put 24 = .ok (.goto 10, 3) := by decide +kernel
theorem d_Fifo_put_27 : decode b_Fifo_put 27 = .ok (.iload_n 2, 1) := by decide +kernel
theorem d_Fifo_put_28 : decode b_Fifo_put 28 = .ok (.aload_n 0, 1) := by decide +kernel
theorem d_Fifo_put_29 : decode b_Fifo_put 29 = .ok (.getfield 7, 3) := by decide +kernel
theorem d_Fifo_put_32 : decode b_Fifo_put 32 = .ok (.arraylength, 1) := by decide +kernel
theorem d_Fifo_put_33 : decode b_Fifo_put 33 = .ok (.isub, 1) := by decide +kernel
theorem d_Fifo_put_34 : decode b_Fifo_put 34 = .ok (.iload_n 1, 1) := by decide +kernel
theorem d_Fifo_put_35 : decode b_Fifo_put 35 = .ok (.iastore, 1) := by decide +kernel
theorem d_Fifo_put_36 : decode b_Fifo_put 36 = .ok (.aload_n 0, 1) := by decide +kernel
theorem d_Fifo_put_37 : decode b_Fifo_put 37 = .ok (.dup, 1) := by decide +kernel
theorem d_Fifo_put_38 : decode b_Fifo_put 38 = .ok (.getfield 17, 3) := by decide +kernel
theorem d_Fifo_put_41 : decode b_Fifo_put 41 = .ok (.iconst 1, 1) := by decide +kernel
theorem d_Fifo_put_42 : decode b_Fifo_put 42 = .ok (.iadd, 1) := by decide +kernel
theorem d_Fifo_put_43 : decode b_Fifo_put 43 = .ok (.putfield 17, 3) := by decide +kernel
theorem d_Fifo_put_46 : decode b_Fifo_put 46 = .ok (.return_, 1) := by decide +kernel
theorem d_AddressStream_hand_0 : decode b_AddressStream_hand 0 = .ok (.iload_n 1, 1) := by decide +kernel
theorem d_AddressStream_hand_1 : decode b_AddressStream_hand 1 = .ok (.iconst (-1), 1) := by decide +kernel
theorem d_AddressStream_hand_2 : decode b_AddressStream_hand 2 = .ok (.if_icmp .eq 19, 3) := by decide +kernel
theorem d_AddressStream_hand_5 : decode b_AddressStream_hand 5 = .ok (.aload_n 0, 1) := by decide +kernel
theorem d_AddressStream_hand_6 : decode b_AddressStream_hand 6 = .ok (.getfield 63, 3) := by decide +kernel
theorem d_AddressStream_hand_9 : decode b_AddressStream_hand 9 = .ok (.getfield 146, 3) := by decide +kernel
theorem d_AddressStream_hand_12 : decode b_AddressStream_hand 12 = .ok (.aload_n 0, 1) := by decide +kernel
theorem d_AddressStream_hand_13 : decode b_AddressStream_hand 13 = .ok (.getfield 102, 3) := by decide +kernel
theorem d_AddressStream_hand_16 : decode b_AddressStream_hand 16 = .ok (.iload_n 1, 1) := by decide +kernel
theorem d_AddressStream_hand_17 : decode b_AddressStream_hand 17 = .ok (.iaload, 1) := by decide +kernel
theorem d_AddressStream_hand_18 : decode b_AddressStream_hand 18 = .ok (.invokevirtual 161, 3) := by decide +kernel
theorem d_AddressStream_hand_21 : decode b_AddressStream_hand 21 = .ok (.return_, 1) := by decide +kernel
theorem d_Stream_leaveFor_0 : decode b_Stream_leaveFor 0 = .ok (.aload_n 0, 1) := by decide +kernel
theorem d_Stream_leaveFor_1 : decode b_Stream_leaveFor 1 = .ok (.iload_n 1, 1) := by decide +kernel
theorem d_Stream_leaveFor_2 : decode b_Stream_leaveFor 2 = .ok (.putfield 31, 3) := by decide +kernel
theorem d_Stream_leaveFor_5 : decode b_Stream_leaveFor 5 = .ok (.aload_n 0, 1) := by decide +kernel
theorem d_Stream_leaveFor_6 : decode b_Stream_leaveFor 6 = .ok (.dup, 1) := by decide +kernel
theorem d_Stream_leaveFor_7 : decode b_Stream_leaveFor 7 = .ok (.getfield 27, 3) := by decide +kernel
theorem d_Stream_leaveFor_10 : decode b_Stream_leaveFor 10 = .ok (.iconst 1, 1) := by decide +kernel
theorem d_Stream_leaveFor_11 : decode b_Stream_leaveFor 11 = .ok (.iadd, 1) := by decide +kernel
theorem d_Stream_leaveFor_12 : decode b_Stream_leaveFor 12 = .ok (.putfield 27, 3) := by decide +kernel
theorem d_Stream_leaveFor_15 : decode b_Stream_leaveFor 15 = .ok (.aload_n 0, 1) := by decide +kernel
theorem d_Stream_leaveFor_16 : decode b_Stream_leaveFor 16 = .ok (.invokevirtual 34, 3) := by decide +kernel
theorem d_Stream_leaveFor_19 : decode b_Stream_leaveFor 19 = .ok (.iconst 1, 1) := by decide +kernel
theorem d_Stream_leaveFor_20 : decode b_Stream_leaveFor 20 = .ok (.ireturn, 1) := by decide +kernel
theorem d_Run_behind_0 : decode b_Run_behind 0 = .ok (.iload_n 2, 1) := by decide +kernel
theorem d_Run_behind_1 : decode b_Run_behind 1 = .ok (.ifCond .eq 15, 3) := by decide +kernel
theorem d_Run_behind_4 : decode b_Run_behind 4 = .ok (.aload_n 0, 1) := by decide +kernel
theorem d_Run_behind_5 : decode b_Run_behind 5 = .ok (.getfield 15, 3) := by decide +kernel
theorem d_Run_behind_8 : decode b_Run_behind 8 = .ok (.getfield 41, 3) := by decide +kernel
theorem d_Run_behind_11 : decode b_Run_behind 11 = .ok (.iload_n 1, 1) := by decide +kernel
theorem d_Run_behind_12 : decode b_Run_behind 12 = .ok (.iaload, 1) := by decide +kernel
theorem d_Run_behind_13 : decode b_Run_behind 13 = .ok (.goto 6, 3) := by decide +kernel
theorem d_Run_behind_16 : decode b_Run_behind 16 = .ok (.iload_n 1, 1) := by decide +kernel
theorem d_Run_behind_17 : decode b_Run_behind 17 = .ok (.iconst 1, 1) := by decide +kernel
theorem d_Run_behind_18 : decode b_Run_behind 18 = .ok (.iadd, 1) := by decide +kernel
theorem d_Run_behind_19 : decode b_Run_behind 19 = .ok (.ireturn, 1) := by decide +kernel
theorem d_Fifo_take_0 : decode b_Fifo_take 0 = .ok (.aload_n 0, 1) := by decide +kernel
theorem d_Fifo_take_1 : decode b_Fifo_take 1 = .ok (.getfield 7, 3) := by decide +kernel
theorem d_Fifo_take_4 : decode b_Fifo_take 4 = .ok (.aload_n 0, 1) := by decide +kernel
theorem d_Fifo_take_5 : decode b_Fifo_take 5 = .ok (.getfield 13, 3) := by decide +kernel
theorem d_Fifo_take_8 : decode b_Fifo_take 8 = .ok (.iaload, 1) := by decide +kernel
theorem d_Fifo_take_9 : decode b_Fifo_take 9 = .ok (.istore_n 1, 1) := by decide +kernel
theorem d_Fifo_take_10 : decode b_Fifo_take 10 = .ok (.aload_n 0, 1) := by decide +kernel
theorem d_Fifo_take_11 : decode b_Fifo_take 11 = .ok (.aload_n 0, 1) := by decide +kernel
theorem d_Fifo_take_12 : decode b_Fifo_take 12 = .ok (.getfield 13, 3) := by decide +kernel
theorem d_Fifo_take_15 : decode b_Fifo_take 15 = .ok (.iconst 1, 1) := by decide +kernel
theorem d_Fifo_take_16 : decode b_Fifo_take 16 = .ok (.iadd, 1) := by decide +kernel
theorem d_Fifo_take_17 : decode b_Fifo_take 17 = .ok (.aload_n 0, 1) := by decide +kernel
theorem d_Fifo_take_18 : decode b_Fifo_take 18 = .ok (.getfield 7, 3) := by decide +kernel
theorem d_Fifo_take_21 : decode b_Fifo_take 21 = .ok (.arraylength, 1) := by decide +kernel
theorem d_Fifo_take_22 : decode b_Fifo_take 22 = .ok (.if_icmp .ge 12, 3) := by decide +kernel
theorem d_Fifo_take_25 : decode b_Fifo_take 25 = .ok (.aload_n 0, 1) := by decide +kernel
theorem d_Fifo_take_26 : decode b_Fifo_take 26 = .ok (.getfield 13, 3) := by decide +kernel
theorem d_Fifo_take_29 : decode b_Fifo_take 29 = .ok (.iconst 1, 1) := by decide +kernel
theorem d_Fifo_take_30 : decode b_Fifo_take 30 = .ok (.iadd, 1) := by decide +kernel
theorem d_Fifo_take_31 : decode b_Fifo_take 31 = .ok (.goto 4, 3) := by decide +kernel
theorem d_Fifo_take_34 : decode b_Fifo_take 34 = .ok (.iconst 0, 1) := by decide +kernel
theorem d_Fifo_take_35 : decode b_Fifo_take 35 = .ok (.putfield 13, 3) := by decide +kernel
theorem d_Fifo_take_38 : decode b_Fifo_take 38 = .ok (.aload_n 0, 1) := by decide +kernel
theorem d_Fifo_take_39 : decode b_Fifo_take 39 = .ok (.dup, 1) := by decide +kernel
theorem d_Fifo_take_40 : decode b_Fifo_take 40 = .ok (.getfield 17, 3) := by decide +kernel
theorem d_Fifo_take_43 : decode b_Fifo_take 43 = .ok (.iconst 1, 1) := by decide +kernel
theorem d_Fifo_take_44 : decode b_Fifo_take 44 = .ok (.isub, 1) := by decide +kernel
theorem d_Fifo_take_45 : decode b_Fifo_take 45 = .ok (.putfield 17, 3) := by decide +kernel
theorem d_Fifo_take_48 : decode b_Fifo_take 48 = .ok (.iload_n 1, 1) := by decide +kernel
theorem d_Fifo_take_49 : decode b_Fifo_take 49 = .ok (.ireturn, 1) := by decide +kernel
theorem d_Stream_followOutcome_0 : decode b_Stream_followOutcome 0 = .ok (.aload_n 2, 1) := by decide +kernel
theorem d_Stream_followOutcome_1 : decode b_Stream_followOutcome 1 = .ok (.getfield 55, 3) := by decide +kernel
theorem d_Stream_followOutcome_4 : decode b_Stream_followOutcome 4 = .ok (.ifCond .ne 5, 3) := by decide +kernel
theorem d_Stream_followOutcome_7 : decode b_Stream_followOutcome 7 = .ok (.iconst 0, 1) := by decide +kernel
theorem d_Stream_followOutcome_8 : decode b_Stream_followOutcome 8 = .ok (.ireturn, 1) := by decide +kernel
theorem d_Stream_followOutcome_9 : decode b_Stream_followOutcome 9 = .ok (.aload_n 0, 1) := by decide +kernel
theorem d_Stream_followOutcome_10 : decode b_Stream_followOutcome 10 = .ok (.aload_n 0, 1) := by decide +kernel
theorem d_Stream_followOutcome_11 : decode b_Stream_followOutcome 11 = .ok (.iload_n 1, 1) := by decide +kernel
theorem d_Stream_followOutcome_12 : decode b_Stream_followOutcome 12 = .ok (.aload_n 2, 1) := by decide +kernel
theorem d_Stream_followOutcome_13 : decode b_Stream_followOutcome 13 = .ok (.invokevirtual 58, 3) := by decide +kernel
theorem d_Stream_followOutcome_16 : decode b_Stream_followOutcome 16 = .ok (.ifCond .eq 7, 3) := by decide +kernel
theorem d_Stream_followOutcome_19 : decode b_Stream_followOutcome 19 = .ok (.iconst 1, 1) := by decide +kernel
theorem d_Stream_followOutcome_20 : decode b_Stream_followOutcome 20 = .ok (.goto 4, 3) := by decide +kernel
theorem d_Stream_followOutcome_23 : decode b_Stream_followOutcome 23 = .ok (.iconst 0, 1) := by decide +kernel
theorem d_Stream_followOutcome_24 : decode b_Stream_followOutcome 24 = .ok (.invokevirtual 48, 3) := by decide +kernel
theorem d_Stream_followOutcome_27 : decode b_Stream_followOutcome 27 = .ok (.invokevirtual 52, 3) := by decide +kernel
theorem d_Stream_followOutcome_30 : decode b_Stream_followOutcome 30 = .ok (.ireturn, 1) := by decide +kernel
theorem d_Run_wordAddress_0 : decode b_Run_wordAddress 0 = .ok (.aload_n 0, 1) := by decide +kernel
theorem d_Run_wordAddress_1 : decode b_Run_wordAddress 1 = .ok (.getfield 9, 3) := by decide +kernel
theorem d_Run_wordAddress_4 : decode b_Run_wordAddress 4 = .ok (.aload_n 0, 1) := by decide +kernel
theorem d_Run_wordAddress_5 : decode b_Run_wordAddress 5 = .ok (.getfield 15, 3) := by decide +kernel
theorem d_Run_wordAddress_8 : decode b_Run_wordAddress 8 = .ok (.getfield 38, 3) := by decide +kernel
theorem d_Run_wordAddress_11 : decode b_Run_wordAddress 11 = .ok (.iload_n 1, 1) := by decide +kernel
theorem d_Run_wordAddress_12 : decode b_Run_wordAddress 12 = .ok (.iaload, 1) := by decide +kernel
theorem d_Run_wordAddress_13 : decode b_Run_wordAddress 13 = .ok (.iaload, 1) := by decide +kernel
theorem d_Run_wordAddress_14 : decode b_Run_wordAddress 14 = .ok (.aload_n 0, 1) := by decide +kernel
theorem d_Run_wordAddress_15 : decode b_Run_wordAddress 15 = .ok (.getfield 15, 3) := by decide +kernel
theorem d_Run_wordAddress_18 : decode b_Run_wordAddress 18 = .ok (.getfield 41, 3) := by decide +kernel
theorem d_Run_wordAddress_21 : decode b_Run_wordAddress 21 = .ok (.iload_n 1, 1) := by decide +kernel
theorem d_Run_wordAddress_22 : decode b_Run_wordAddress 22 = .ok (.iaload, 1) := by decide +kernel
theorem d_Run_wordAddress_23 : decode b_Run_wordAddress 23 = .ok (.iadd, 1) := by decide +kernel
theorem d_Run_wordAddress_24 : decode b_Run_wordAddress 24 = .ok (.bipush 31, 2) := by decide +kernel
theorem d_Run_wordAddress_26 : decode b_Run_wordAddress 26 = .ok (.iand, 1) := by decide +kernel
theorem d_Run_wordAddress_27 : decode b_Run_wordAddress 27 = .ok (.ireturn, 1) := by decide +kernel
theorem d_StoreList_slot_0 : decode b_StoreList_slot 0 = .ok (.aload_n 0, 1) := by decide +kernel
theorem d_StoreList_slot_1 : decode b_StoreList_slot 1 = .ok (.getfield 25, 3) := by decide +kernel
theorem d_StoreList_slot_4 : decode b_StoreList_slot 4 = .ok (.iload_n 1, 1) := by decide +kernel
theorem d_StoreList_slot_5 : decode b_StoreList_slot 5 = .ok (.iadd, 1) := by decide +kernel
theorem d_StoreList_slot_6 : decode b_StoreList_slot 6 = .ok (.bipush 6, 2) := by decide +kernel
theorem d_StoreList_slot_8 : decode b_StoreList_slot 8 = .ok (.irem, 1) := by decide +kernel
theorem d_StoreList_slot_9 : decode b_StoreList_slot 9 = .ok (.ireturn, 1) := by decide +kernel
theorem d_StoreList_holds_0 : decode b_StoreList_holds 0 = .ok (.iconst 0, 1) := by decide +kernel
theorem d_StoreList_holds_1 : decode b_StoreList_holds 1 = .ok (.istore_n 2, 1) := by decide +kernel
theorem d_StoreList_holds_2 : decode b_StoreList_holds 2 = .ok (.iload_n 2, 1) := by decide +kernel
theorem d_StoreList_holds_3 : decode b_StoreList_holds 3 = .ok (.aload_n 0, 1) := by decide +kernel
theorem d_StoreList_holds_4 : decode b_StoreList_holds 4 = .ok (.getfield 29, 3) := by decide +kernel
theorem d_StoreList_holds_7 : decode b_StoreList_holds 7 = .ok (.if_icmp .ge 25, 3) := by decide +kernel
theorem d_StoreList_holds_10 : decode b_StoreList_holds 10 = .ok (.aload_n 0, 1) := by decide +kernel
theorem d_StoreList_holds_11 : decode b_StoreList_holds 11 = .ok (.getfield 9, 3) := by decide +kernel
theorem d_StoreList_holds_14 : decode b_StoreList_holds 14 = .ok (.aload_n 0, 1) := by decide +kernel
theorem d_StoreList_holds_15 : decode b_StoreList_holds 15 = .ok (.iload_n 2, 1) := by decide +kernel
theorem d_StoreList_holds_16 : decode b_StoreList_holds 16 = .ok (.invokevirtual 32, 3) := by decide +kernel
theorem d_StoreList_holds_19 : decode b_StoreList_holds 19 = .ok (.iaload, 1) := by decide +kernel
theorem d_StoreList_holds_20 : decode b_StoreList_holds 20 = .ok (.iload_n 1, 1) := by decide +kernel
theorem d_StoreList_holds_21 : decode b_StoreList_holds 21 = .ok (.if_icmp .ne 5, 3) := by decide +kernel
theorem d_StoreList_holds_24 : decode b_StoreList_holds 24 = .ok (.iconst 1, 1) := by decide +kernel
theorem d_StoreList_holds_25 : decode b_StoreList_holds 25 = .ok (.ireturn, 1) := by decide +kernel
theorem d_StoreList_holds_26 : decode b_StoreList_holds 26 = .ok (.iinc 2 1, 3) := by decide +kernel
theorem d_StoreList_holds_29 : decode b_StoreList_holds 29 = .ok (.goto (-27), 3) := by decide +kernel
theorem d_StoreList_holds_32 : decode b_StoreList_holds 32 = .ok (.iconst 0, 1) := by decide +kernel
theorem d_StoreList_holds_33 : decode b_StoreList_holds 33 = .ok (.ireturn, 1) := by decide +kernel
theorem d_AddressStream_sendLoad_0 : decode b_AddressStream_sendLoad 0 = .ok (.aload_n 0, 1) := by decide +kernel
theorem d_AddressStream_sendLoad_1 : decode b_AddressStream_sendLoad 1 = .ok (.iload_n 1, 1) := by decide +kernel
theorem d_AddressStream_sendLoad_2 : decode b_AddressStream_sendLoad 2 = .ok (.invokevirtual 89, 3) := by decide +kernel
theorem d_AddressStream_sendLoad_5 : decode b_AddressStream_sendLoad 5 = .ok (.istore_n 2, 1) := by decide +kernel
theorem d_AddressStream_sendLoad_6 : decode b_AddressStream_sendLoad 6 = .ok (.aload_n 0, 1) := by decide +kernel
theorem d_AddressStream_sendLoad_7 : decode b_AddressStream_sendLoad 7 = .ok (.getfield 63, 3) := by decide +kernel
theorem d_AddressStream_sendLoad_10 : decode b_AddressStream_sendLoad 10 = .ok (.getfield 93, 3) := by decide +kernel
theorem d_AddressStream_sendLoad_13 : decode b_AddressStream_sendLoad 13 = .ok (.iload_n 2, 1) := by decide +kernel
theorem d_AddressStream_sendLoad_14 : decode b_AddressStream_sendLoad 14 = .ok (.invokevirtual 97, 3) := by decide +kernel
theorem d_AddressStream_sendLoad_17 : decode b_AddressStream_sendLoad 17 = .ok (.ifCond .ne 17, 3) := by decide +kernel
theorem d_AddressStream_sendLoad_20 : decode b_AddressStream_sendLoad 20 = .ok (.aload_n 0, 1) := by decide +kernel
theorem d_AddressStream_sendLoad_21 : decode b_AddressStream_sendLoad 21 = .ok (.getfield 63, 3) := by decide +kernel
theorem d_AddressStream_sendLoad_24 : decode b_AddressStream_sendLoad 24 = .ok (.getfield 158, 3) := by decide +kernel
theorem d_AddressStream_sendLoad_27 : decode b_AddressStream_sendLoad 27 = .ok (.iconst 1, 1) := by decide +kernel
theorem d_AddressStream_sendLoad_28 : decode b_AddressStream_sendLoad 28 = .ok (.invokevirtual 73, 3) := by decide +kernel
theorem d_AddressStream_sendLoad_31 : decode b_AddressStream_sendLoad 31 = .ok (.ifCond .ne 5, 3) := by decide +kernel
theorem d_AddressStream_sendLoad_34 : decode b_AddressStream_sendLoad 34 = .ok (.iconst 0, 1) := by decide +kernel
theorem d_AddressStream_sendLoad_35 : decode b_AddressStream_sendLoad 35 = .ok (.ireturn, 1) := by decide +kernel
theorem d_AddressStream_sendLoad_36 : decode b_AddressStream_sendLoad 36 = .ok (.aload_n 0, 1) := by decide +kernel
theorem d_AddressStream_sendLoad_37 : decode b_AddressStream_sendLoad 37 = .ok (.getfield 63, 3) := by decide +kernel
theorem d_AddressStream_sendLoad_40 : decode b_AddressStream_sendLoad 40 = .ok (.getfield 158, 3) := by decide +kernel
theorem d_AddressStream_sendLoad_43 : decode b_AddressStream_sendLoad 43 = .ok (.aload_n 0, 1) := by decide +kernel
theorem d_AddressStream_sendLoad_44 : decode b_AddressStream_sendLoad 44 = .ok (.getfield 63, 3) := by decide +kernel
theorem d_AddressStream_sendLoad_47 : decode b_AddressStream_sendLoad 47 = .ok (.getfield 108, 3) := by decide +kernel
theorem d_AddressStream_sendLoad_50 : decode b_AddressStream_sendLoad 50 = .ok (.iload_n 2, 1) := by decide +kernel
theorem d_AddressStream_sendLoad_51 : decode b_AddressStream_sendLoad 51 = .ok (.iaload, 1) := by decide +kernel
theorem d_AddressStream_sendLoad_52 : decode b_AddressStream_sendLoad 52 = .ok (.invokevirtual 161, 3) := by decide +kernel
theorem d_AddressStream_sendLoad_55 : decode b_AddressStream_sendLoad 55 = .ok (.aload_n 0, 1) := by decide +kernel
theorem d_AddressStream_sendLoad_56 : decode b_AddressStream_sendLoad 56 = .ok (.iload_n 1, 1) := by decide +kernel
theorem d_AddressStream_sendLoad_57 : decode b_AddressStream_sendLoad 57 = .ok (.iconst 1, 1) := by decide +kernel
theorem d_AddressStream_sendLoad_58 : decode b_AddressStream_sendLoad 58 = .ok (.iadd, 1) := by decide +kernel
theorem d_AddressStream_sendLoad_59 : decode b_AddressStream_sendLoad 59 = .ok (.invokevirtual 86, 3) := by decide +kernel
theorem d_AddressStream_sendLoad_62 : decode b_AddressStream_sendLoad 62 = .ok (.ireturn, 1) := by decide +kernel
theorem d_AddressStream_serve_0 : decode b_AddressStream_serve 0 = .ok (.aload_n 0, 1) := by decide +kernel
theorem d_AddressStream_serve_1 : decode b_AddressStream_serve 1 = .ok (.getfield 29, 3) := by decide +kernel
theorem d_AddressStream_serve_4 : decode b_AddressStream_serve 4 = .ok (.getfield 54, 3) := by decide +kernel
theorem d_AddressStream_serve_7 : decode b_AddressStream_serve 7 = .ok (.iload_n 1, 1) := by decide +kernel
theorem d_AddressStream_serve_8 : decode b_AddressStream_serve 8 = .ok (.iaload, 1) := by decide +kernel
theorem d_AddressStream_serve_9 : decode b_AddressStream_serve 9 = .ok (.iconst 4, 1) := by decide +kernel
theorem d_AddressStream_serve_10 : decode b_AddressStream_serve 10 = .ok (.if_icmp .ne 9, 3) := by decide +kernel
theorem d_AddressStream_serve_13 : decode b_AddressStream_serve 13 = .ok (.aload_n 0, 1) := by decide +kernel
theorem d_AddressStream_serve_14 : decode b_AddressStream_serve 14 = .ok (.iload_n 1, 1) := by decide +kernel
theorem d_AddressStream_serve_15 : decode b_AddressStream_serve 15 = .ok (.invokevirtual 134, 3) := by decide +kernel
theorem d_AddressStream_serve_18 : decode b_AddressStream_serve 18 = .ok (.ireturn, 1) := by decide +kernel
theorem d_AddressStream_serve_19 : decode b_AddressStream_serve 19 = .ok (.aload_n 0, 1) := by decide +kernel
theorem d_AddressStream_serve_20 : decode b_AddressStream_serve 20 = .ok (.invokevirtual 137, 3) := by decide +kernel
theorem d_AddressStream_serve_23 : decode b_AddressStream_serve 23 = .ok (.ifCond .eq 38, 3) := by decide +kernel
theorem d_AddressStream_serve_26 : decode b_AddressStream_serve 26 = .ok (.aload_n 0, 1) := by decide +kernel
theorem d_AddressStream_serve_27 : decode b_AddressStream_serve 27 = .ok (.iload_n 1, 1) := by decide +kernel
theorem d_AddressStream_serve_28 : decode b_AddressStream_serve 28 = .ok (.aload_n 0, 1) := by decide +kernel
theorem d_AddressStream_serve_29 : decode b_AddressStream_serve 29 = .ok (.getfield 63, 3) := by decide +kernel
theorem d_AddressStream_serve_32 : decode b_AddressStream_serve 32 = .ok (.getfield 140, 3) := by decide +kernel
theorem d_AddressStream_serve_35 : decode b_AddressStream_serve 35 = .ok (.invokevirtual 143, 3) := by decide +kernel
theorem d_AddressStream_serve_38 : decode b_AddressStream_serve 38 = .ok (.istore_n 2, 1) := by decide +kernel
theorem d_AddressStream_serve_39 : decode b_AddressStream_serve 39 = .ok (.aload_n 0, 1) := by decide +kernel
theorem d_AddressStream_serve_40 : decode b_AddressStream_serve 40 = .ok (.aload_n 0, 1) := by decide +kernel
theorem d_AddressStream_serve_41 : decode b_AddressStream_serve 41 = .ok (.getfield 15, 3) := by decide +kernel
theorem d_AddressStream_serve_44 : decode b_AddressStream_serve 44 = .ok (.ifCond .eq 11, 3) := by decide +kernel
theorem d_AddressStream_serve_47 : decode b_AddressStream_serve 47 = .ok (.iload_n 2, 1) := by decide +kernel
theorem d_AddressStream_serve_48 : decode b_AddressStream_serve 48 = .ok (.ifCond .ne 7, 3) := by decide +kernel
theorem d_AddressStream_serve_51 : decode b_AddressStream_serve 51 = .ok (.iconst 1, 1) := by decide +kernel
theorem d_AddressStream_serve_52 : decode b_AddressStream_serve 52 = .ok (.goto 4, 3) := by decide +kernel
theorem d_AddressStream_serve_55 : decode b_AddressStream_serve 55 = .ok (.iconst 0, 1) := by decide +kernel
theorem d_AddressStream_serve_56 : decode b_AddressStream_serve 56 = .ok (.putfield 15, 3) := by decide +kernel
theorem d_AddressStream_serve_59 : decode b_AddressStream_serve 59 = .ok (.iload_n 2, 1) := by decide +kernel
theorem d_AddressStream_serve_60 : decode b_AddressStream_serve 60 = .ok (.ireturn, 1) := by decide +kernel
theorem d_AddressStream_serve_61 : decode b_AddressStream_serve 61 = .ok (.aload_n 0, 1) := by decide +kernel
theorem d_AddressStream_serve_62 : decode b_AddressStream_serve 62 = .ok (.getfield 63, 3) := by decide +kernel
theorem d_AddressStream_serve_65 : decode b_AddressStream_serve 65 = .ok (.getfield 146, 3) := by decide +kernel
theorem d_AddressStream_serve_68 : decode b_AddressStream_serve 68 = .ok (.aload_n 0, 1) := by decide +kernel
theorem d_AddressStream_serve_69 : decode b_AddressStream_serve 69 = .ok (.getfield 29, 3) := by decide +kernel
theorem d_AddressStream_serve_72 : decode b_AddressStream_serve 72 = .ok (.getfield 51, 3) := by decide +kernel
theorem d_AddressStream_serve_75 : decode b_AddressStream_serve 75 = .ok (.iload_n 1, 1) := by decide +kernel
theorem d_AddressStream_serve_76 : decode b_AddressStream_serve 76 = .ok (.iaload, 1) := by decide +kernel
theorem d_AddressStream_serve_77 : decode b_AddressStream_serve 77 = .ok (.invokevirtual 73, 3) := by decide +kernel
theorem d_AddressStream_serve_80 : decode b_AddressStream_serve 80 = .ok (.ifCond .ne 5, 3) := by decide +kernel
theorem d_AddressStream_serve_83 : decode b_AddressStream_serve 83 = .ok (.iconst 0, 1) := by decide +kernel
theorem d_AddressStream_serve_84 : decode b_AddressStream_serve 84 = .ok (.ireturn, 1) := by decide +kernel
theorem d_AddressStream_serve_85 : decode b_AddressStream_serve 85 = .ok (.aload_n 0, 1) := by decide +kernel
theorem d_AddressStream_serve_86 : decode b_AddressStream_serve 86 = .ok (.aload_n 0, 1) := by decide +kernel
theorem d_AddressStream_serve_87 : decode b_AddressStream_serve 87 = .ok (.getfield 29, 3) := by decide +kernel
theorem d_AddressStream_serve_90 : decode b_AddressStream_serve 90 = .ok (.getfield 149, 3) := by decide +kernel
theorem d_AddressStream_serve_93 : decode b_AddressStream_serve 93 = .ok (.iload_n 1, 1) := by decide +kernel
theorem d_AddressStream_serve_94 : decode b_AddressStream_serve 94 = .ok (.iaload, 1) := by decide +kernel
theorem d_AddressStream_serve_95 : decode b_AddressStream_serve 95 = .ok (.invokevirtual 152, 3) := by decide +kernel
theorem d_AddressStream_serve_98 : decode b_AddressStream_serve 98 = .ok (.aload_n 0, 1) := by decide +kernel
theorem d_AddressStream_serve_99 : decode b_AddressStream_serve 99 = .ok (.aload_n 0, 1) := by decide +kernel
theorem d_AddressStream_serve_100 : decode b_AddressStream_serve 100 = .ok (.getfield 29, 3) := by decide +kernel
theorem d_AddressStream_serve_103 : decode b_AddressStream_serve 103 = .ok (.getfield 155, 3) := by decide +kernel
theorem d_AddressStream_serve_106 : decode b_AddressStream_serve 106 = .ok (.iload_n 1, 1) := by decide +kernel
theorem d_AddressStream_serve_107 : decode b_AddressStream_serve 107 = .ok (.iaload, 1) := by decide +kernel
theorem d_AddressStream_serve_108 : decode b_AddressStream_serve 108 = .ok (.invokevirtual 152, 3) := by decide +kernel
theorem d_AddressStream_serve_111 : decode b_AddressStream_serve 111 = .ok (.aload_n 0, 1) := by decide +kernel
theorem d_AddressStream_serve_112 : decode b_AddressStream_serve 112 = .ok (.getfield 29, 3) := by decide +kernel
theorem d_AddressStream_serve_115 : decode b_AddressStream_serve 115 = .ok (.iload_n 1, 1) := by decide +kernel
theorem d_AddressStream_serve_116 : decode b_AddressStream_serve 116 = .ok (.invokevirtual 48, 3) := by decide +kernel
theorem d_AddressStream_serve_119 : decode b_AddressStream_serve 119 = .ok (.ifCond .eq 10, 3) := by decide +kernel
theorem d_AddressStream_serve_122 : decode b_AddressStream_serve 122 = .ok (.aload_n 0, 1) := by decide +kernel
theorem d_AddressStream_serve_123 : decode b_AddressStream_serve 123 = .ok (.iconst 1, 1) := by decide +kernel
theorem d_AddressStream_serve_124 : decode b_AddressStream_serve 124 = .ok (.putfield 15, 3) := by decide +kernel
theorem d_AddressStream_serve_127 : decode b_AddressStream_serve 127 = .ok (.iconst 1, 1) := by decide +kernel
theorem d_AddressStream_serve_128 : decode b_AddressStream_serve 128 = .ok (.ireturn, 1) := by decide +kernel
theorem d_AddressStream_serve_129 : decode b_AddressStream_serve 129 = .ok (.aload_n 0, 1) := by decide +kernel
theorem d_AddressStream_serve_130 : decode b_AddressStream_serve 130 = .ok (.iload_n 1, 1) := by decide +kernel
theorem d_AddressStream_serve_131 : decode b_AddressStream_serve 131 = .ok (.iconst 1, 1) := by decide +kernel
theorem d_AddressStream_serve_132 : decode b_AddressStream_serve 132 = .ok (.iadd, 1) := by decide +kernel
theorem d_AddressStream_serve_133 : decode b_AddressStream_serve 133 = .ok (.invokevirtual 86, 3) := by decide +kernel
theorem d_AddressStream_serve_136 : decode b_AddressStream_serve 136 = .ok (.ireturn, 1) := by decide +kernel
theorem d_Run_test_0 : decode b_Run_test 0 = .ok (.aload_n 0, 1) := by decide +kernel
theorem d_Run_test_1 : decode b_Run_test 1 = .ok (.getfield 9, 3) := by decide +kernel
theorem d_Run_test_4 : decode b_Run_test 4 = .ok (.aload_n 0, 1) := by decide +kernel
theorem d_Run_test_5 : decode b_Run_test 5 = .ok (.getfield 15, 3) := by decide +kernel
theorem d_Run_test_8 : decode b_Run_test 8 = .ok (.getfield 44, 3) := by decide +kernel
theorem d_Run_test_11 : decode b_Run_test 11 = .ok (.iload_n 1, 1) := by decide +kernel
theorem d_Run_test_12 : decode b_Run_test 12 = .ok (.iaload, 1) := by decide +kernel
theorem d_Run_test_13 : decode b_Run_test 13 = .ok (.iaload, 1) := by decide +kernel
theorem d_Run_test_14 : decode b_Run_test 14 = .ok (.istore_n 2, 1) := by decide +kernel
theorem d_Run_test_15 : decode b_Run_test 15 = .ok (.aload_n 0, 1) := by decide +kernel
theorem d_Run_test_16 : decode b_Run_test 16 = .ok (.getfield 9, 3) := by decide +kernel
theorem d_Run_test_19 : decode b_Run_test 19 = .ok (.aload_n 0, 1) := by decide +kernel
theorem d_Run_test_20 : decode b_Run_test 20 = .ok (.getfield 15, 3) := by decide +kernel
theorem d_Run_test_23 : decode b_Run_test 23 = .ok (.getfield 38, 3) := by decide +kernel
theorem d_Run_test_26 : decode b_Run_test 26 = .ok (.iload_n 1, 1) := by decide +kernel
theorem d_Run_test_27 : decode b_Run_test 27 = .ok (.iaload, 1) := by decide +kernel
theorem d_Run_test_28 : decode b_Run_test 28 = .ok (.iaload, 1) := by decide +kernel
theorem d_Run_test_29 : decode b_Run_test 29 = .ok (.istore_n 3, 1) := by decide +kernel
theorem d_Run_test_30 : decode b_Run_test 30 = .ok (.aload_n 0, 1) := by decide +kernel
theorem d_Run_test_31 : decode b_Run_test 31 = .ok (.getfield 15, 3) := by decide +kernel
theorem d_Run_test_34 : decode b_Run_test 34 = .ok (.getfield 47, 3) := by decide +kernel
theorem d_Run_test_37 : decode b_Run_test 37 = .ok (.iload_n 1, 1) := by decide +kernel
theorem d_Run_test_38 : decode b_Run_test 38 = .ok (.iaload, 1) := by decide +kernel
theorem d_Run_test_39 : decode b_Run_test 39 = .ok (.bipush 6, 2) := by decide +kernel
theorem d_Run_test_41 : decode b_Run_test 41 = .ok (.if_icmp .ne 16, 3) := by decide +kernel
theorem d_Run_test_44 : decode b_Run_test 44 = .ok (.iload_n 2, 1) := by decide +kernel
theorem d_Run_test_45 : decode b_Run_test 45 = .ok (.iload_n 3, 1) := by decide +kernel
theorem d_Run_test_46 : decode b_Run_test 46 = .ok (.if_icmp .ge 7, 3) := by decide +kernel
theorem d_Run_test_49 : decode b_Run_test 49 = .ok (.iconst 1, 1) := by decide +kernel
theorem d_Run_test_50 : decode b_Run_test 50 = .ok (.goto 17, 3) := by decide +kernel
theorem d_Run_test_53 : decode b_Run_test 53 = .ok (.iconst 0, 1) := by decide +kernel
theorem d_Run_test_54 : decode b_Run_test 54 = .ok (.goto 13, 3) := by decide +kernel
theorem d_Run_test_57 : decode b_Run_test 57 = .ok (.iload_n 2, 1) := by decide +kernel
theorem d_Run_test_58 : decode b_Run_test 58 = .ok (.iload_n 3, 1) := by decide +kernel
theorem d_Run_test_59 : decode b_Run_test 59 = .ok (.if_icmp .eq 7, 3) := by decide +kernel
theorem d_Run_test_62 : decode b_Run_test 62 = .ok (.iconst 1, 1) := by decide +kernel
theorem d_Run_test_63 : decode b_Run_test 63 = .ok (.goto 4, 3) := by decide +kernel
theorem d_Run_test_66 : decode b_Run_test 66 = .ok (.iconst 0, 1) := by decide +kernel
theorem d_Run_test_67 : decode b_Run_test 67 = .ok (.ireturn, 1) := by decide +kernel
theorem d_Stream_sendOutcome_0 : decode b_Stream_sendOutcome 0 = .ok (.aload_n 0, 1) := by decide +kernel
theorem d_Stream_sendOutcome_1 : decode b_Stream_sendOutcome 1 = .ok (.iload_n 1, 1) := by decide +kernel
theorem d_Stream_sendOutcome_2 : decode b_Stream_sendOutcome 2 = .ok (.invokevirtual 38, 3) := by decide +kernel
theorem d_Stream_sendOutcome_5 : decode b_Stream_sendOutcome 5 = .ok (.istore_n 3, 1) := by decide +kernel
theorem d_Stream_sendOutcome_6 : decode b_Stream_sendOutcome 6 = .ok (.aload_n 2, 1) := by decide +kernel
theorem d_Stream_sendOutcome_7 : decode b_Stream_sendOutcome 7 = .ok (.iload_n 3, 1) := by decide +kernel
theorem d_Stream_sendOutcome_8 : decode b_Stream_sendOutcome 8 = .ok (.ifCond .eq 7, 3) := by decide +kernel
theorem d_Stream_sendOutcome_11 : decode b_Stream_sendOutcome 11 = .ok (.iconst 1, 1) := by decide +kernel
theorem d_Stream_sendOutcome_12 : decode b_Stream_sendOutcome 12 = .ok (.goto 4, 3) := by decide +kernel
theorem d_Stream_sendOutcome_15 : decode b_Stream_sendOutcome 15 = .ok (.iconst 0, 1) := by decide +kernel
theorem d_Stream_sendOutcome_16 : decode b_Stream_sendOutcome 16 = .ok (.invokevirtual 42, 3) := by decide +kernel
theorem d_Stream_sendOutcome_19 : decode b_Stream_sendOutcome 19 = .ok (.aload_n 0, 1) := by decide +kernel
theorem d_Stream_sendOutcome_20 : decode b_Stream_sendOutcome 20 = .ok (.aload_n 0, 1) := by decide +kernel
theorem d_Stream_sendOutcome_21 : decode b_Stream_sendOutcome 21 = .ok (.iload_n 1, 1) := by decide +kernel
theorem d_Stream_sendOutcome_22 : decode b_Stream_sendOutcome 22 = .ok (.iload_n 3, 1) := by decide +kernel
theorem d_Stream_sendOutcome_23 : decode b_Stream_sendOutcome 23 = .ok (.invokevirtual 48, 3) := by decide +kernel
theorem d_Stream_sendOutcome_26 : decode b_Stream_sendOutcome 26 = .ok (.invokevirtual 52, 3) := by decide +kernel
theorem d_Stream_sendOutcome_29 : decode b_Stream_sendOutcome 29 = .ok (.ireturn, 1) := by decide +kernel
theorem d_AddressStream_load_0 : decode b_AddressStream_load 0 = .ok (.aload_n 0, 1) := by decide +kernel
theorem d_AddressStream_load_1 : decode b_AddressStream_load 1 = .ok (.iload_n 1, 1) := by decide +kernel
theorem d_AddressStream_load_2 : decode b_AddressStream_load 2 = .ok (.invokevirtual 89, 3) := by decide +kernel
theorem d_AddressStream_load_5 : decode b_AddressStream_load 5 = .ok (.istore_n 2, 1) := by decide +kernel
theorem d_AddressStream_load_6 : decode b_AddressStream_load 6 = .ok (.aload_n 0, 1) := by decide +kernel
theorem d_AddressStream_load_7 : decode b_AddressStream_load 7 = .ok (.getfield 63, 3) := by decide +kernel
theorem d_AddressStream_load_10 : decode b_AddressStream_load 10 = .ok (.getfield 93, 3) := by decide +kernel
theorem d_AddressStream_load_13 : decode b_AddressStream_load 13 = .ok (.iload_n 2, 1) := by decide +kernel
theorem d_AddressStream_load_14 : decode b_AddressStream_load 14 = .ok (.invokevirtual 97, 3) := by decide +kernel
theorem d_AddressStream_load_17 : decode b_AddressStream_load 17 = .ok (.ifCond .eq 5, 3) := by decide +kernel
theorem d_AddressStream_load_20 : decode b_AddressStream_load 20 = .ok (.iconst 0, 1) := by decide +kernel
theorem d_AddressStream_load_21 : decode b_AddressStream_load 21 = .ok (.ireturn, 1) := by decide +kernel
theorem d_AddressStream_load_22 : decode b_AddressStream_load 22 = .ok (.aload_n 0, 1) := by decide +kernel
theorem d_AddressStream_load_23 : decode b_AddressStream_load 23 = .ok (.getfield 102, 3) := by decide +kernel
theorem d_AddressStream_load_26 : decode b_AddressStream_load 26 = .ok (.aload_n 0, 1) := by decide +kernel
theorem d_AddressStream_load_27 : decode b_AddressStream_load 27 = .ok (.getfield 29, 3) := by decide +kernel
theorem d_AddressStream_load_30 : decode b_AddressStream_load 30 = .ok (.getfield 105, 3) := by decide +kernel
theorem d_AddressStream_load_33 : decode b_AddressStream_load 33 = .ok (.iload_n 1, 1) := by decide +kernel
theorem d_AddressStream_load_34 : decode b_AddressStream_load 34 = .ok (.iaload, 1) := by decide +kernel
theorem d_AddressStream_load_35 : decode b_AddressStream_load 35 = .ok (.aload_n 0, 1) := by decide +kernel
theorem d_AddressStream_load_36 : decode b_AddressStream_load 36 = .ok (.getfield 63, 3) := by decide +kernel
theorem d_AddressStream_load_39 : decode b_AddressStream_load 39 = .ok (.getfield 108, 3) := by decide +kernel
theorem d_AddressStream_load_42 : decode b_AddressStream_load 42 = .ok (.iload_n 2, 1) := by decide +kernel
theorem d_AddressStream_load_43 : decode b_AddressStream_load 43 = .ok (.iaload, 1) := by decide +kernel
theorem d_AddressStream_load_44 : decode b_AddressStream_load 44 = .ok (.iastore, 1) := by decide +kernel
theorem d_AddressStream_load_45 : decode b_AddressStream_load 45 = .ok (.aload_n 0, 1) := by decide +kernel
theorem d_AddressStream_load_46 : decode b_AddressStream_load 46 = .ok (.iload_n 1, 1) := by decide +kernel
theorem d_AddressStream_load_47 : decode b_AddressStream_load 47 = .ok (.iconst 1, 1) := by decide +kernel
theorem d_AddressStream_load_48 : decode b_AddressStream_load 48 = .ok (.iadd, 1) := by decide +kernel
theorem d_AddressStream_load_49 : decode b_AddressStream_load 49 = .ok (.invokevirtual 86, 3) := by decide +kernel
theorem d_AddressStream_load_52 : decode b_AddressStream_load 52 = .ok (.ireturn, 1) := by decide +kernel
theorem d_StoreList_isFull_0 : decode b_StoreList_isFull 0 = .ok (.aload_n 0, 1) := by decide +kernel
theorem d_StoreList_isFull_1 : decode b_StoreList_isFull 1 = .ok (.getfield 29, 3) := by decide +kernel
theorem d_StoreList_isFull_4 : decode b_StoreList_isFull 4 = .ok (.bipush 6, 2) := by decide +kernel
theorem d_StoreList_isFull_6 : decode b_StoreList_isFull 6 = .ok (.if_icmp .lt 7, 3) := by decide +kernel
theorem d_StoreList_isFull_9 : decode b_StoreList_isFull 9 = .ok (.iconst 1, 1) := by decide +kernel
theorem d_StoreList_isFull_10 : decode b_StoreList_isFull 10 = .ok (.goto 4, 3) := by decide +kernel
theorem d_StoreList_isFull_13 : decode b_StoreList_isFull 13 = .ok (.iconst 0, 1) := by decide +kernel
theorem d_StoreList_isFull_14 : decode b_StoreList_isFull 14 = .ok (.ireturn, 1) := by decide +kernel
theorem d_StoreList_enter_0 : decode b_StoreList_enter 0 = .ok (.aload_n 0, 1) := by decide +kernel
theorem d_StoreList_enter_1 : decode b_StoreList_enter 1 = .ok (.aload_n 0, 1) := by decide +kernel
theorem d_StoreList_enter_2 : decode b_StoreList_enter 2 = .ok (.getfield 29, 3) := by decide +kernel
theorem d_StoreList_enter_5 : decode b_StoreList_enter 5 = .ok (.invokevirtual 32, 3) := by decide +kernel
theorem d_StoreList_enter_8 : decode b_StoreList_enter 8 = .ok (.istore_n 2, 1) := by decide +kernel
theorem d_StoreList_enter_9 : decode b_StoreList_enter 9 = .ok (.aload_n 0, 1) := by decide +kernel
theorem d_StoreList_enter_10 : decode b_StoreList_enter 10 = .ok (.getfield 9, 3) := by decide +kernel
theorem d_StoreList_enter_13 : decode b_StoreList_enter 13 = .ok (.iload_n 2, 1) := by decide +kernel
theorem d_StoreList_enter_14 : decode b_StoreList_enter 14 = .ok (.iload_n 1, 1) := by decide +kernel
theorem d_StoreList_enter_15 : decode b_StoreList_enter 15 = .ok (.iastore, 1) := by decide +kernel
theorem d_StoreList_enter_16 : decode b_StoreList_enter 16 = .ok (.aload_n 0, 1) := by decide +kernel
theorem d_StoreList_enter_17 : decode b_StoreList_enter 17 = .ok (.getfield 18, 3) := by decide +kernel
theorem d_StoreList_enter_20 : decode b_StoreList_enter 20 = .ok (.iload_n 2, 1) := by decide +kernel
theorem d_StoreList_enter_21 : decode b_StoreList_enter 21 = .ok (.iconst 0, 1) := by decide +kernel
theorem d_StoreList_enter_22 : decode b_StoreList_enter 22 = .ok (.bastore, 1) := by decide +kernel
theorem d_StoreList_enter_23 : decode b_StoreList_enter 23 = .ok (.aload_n 0, 1) := by decide +kernel
theorem d_StoreList_enter_24 : decode b_StoreList_enter 24 = .ok (.dup, 1) := by decide +kernel
theorem d_StoreList_enter_25 : decode b_StoreList_enter 25 = .ok (.getfield 29, 3) := by decide +kernel
theorem d_StoreList_enter_28 : decode b_StoreList_enter 28 = .ok (.iconst 1, 1) := by decide +kernel
theorem d_StoreList_enter_29 : decode b_StoreList_enter 29 = .ok (.iadd, 1) := by decide +kernel
theorem d_StoreList_enter_30 : decode b_StoreList_enter 30 = .ok (.putfield 29, 3) := by decide +kernel
theorem d_StoreList_enter_33 : decode b_StoreList_enter 33 = .ok (.return_, 1) := by decide +kernel
theorem d_StoreList_know_0 : decode b_StoreList_know 0 = .ok (.aload_n 0, 1) := by decide +kernel
theorem d_StoreList_know_1 : decode b_StoreList_know 1 = .ok (.getfield 15, 3) := by decide +kernel
theorem d_StoreList_know_4 : decode b_StoreList_know 4 = .ok (.iload_n 1, 1) := by decide +kernel
theorem d_StoreList_know_5 : decode b_StoreList_know 5 = .ok (.iload_n 2, 1) := by decide +kernel
theorem d_StoreList_know_6 : decode b_StoreList_know 6 = .ok (.iastore, 1) := by decide +kernel
theorem d_StoreList_know_7 : decode b_StoreList_know 7 = .ok (.aload_n 0, 1) := by decide +kernel
