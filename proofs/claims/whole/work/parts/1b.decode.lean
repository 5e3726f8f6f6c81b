theorem d_Program_findNothings_91 : decode b_Program_findNothings 91 = .ok (.iload_n 2, 1) := by decide +kernel
theorem d_Program_findNothings_92 : decode b_Program_findNothings 92 = .ok (.ifCond .eq 19, 3) := by decide +kernel
theorem d_Program_findNothings_95 : decode b_Program_findNothings 95 = .ok (.aload_n 0, 1) := by decide +kernel
theorem d_Program_findNothings_96 : decode b_Program_findNothings 96 = .ok (.iload_n 1, 1) := by decide +kernel
theorem d_Program_findNothings_97 : decode b_Program_findNothings 97 = .ok (.invokevirtual 76, 3) := by decide +kernel
theorem d_Program_findNothings_100 : decode b_Program_findNothings 100 = .ok (.ifCond .ne 11, 3) := by decide +kernel
theorem d_Program_findNothings_103 : decode b_Program_findNothings 103 = .ok (.iload_n 3, 1) := by decide +kernel
theorem d_Program_findNothings_104 : decode b_Program_findNothings 104 = .ok (.ifCond .ne 7, 3) := by decide +kernel
theorem d_Program_findNothings_107 : decode b_Program_findNothings 107 = .ok (.iconst 1, 1) := by decide +kernel
theorem d_Program_findNothings_108 : decode b_Program_findNothings 108 = .ok (.goto 4, 3) := by decide +kernel
theorem d_Program_findNothings_111 : decode b_Program_findNothings 111 = .ok (.iconst 0, 1) := by decide +kernel
theorem d_Program_findNothings_112 : decode b_Program_findNothings 112 = .ok (.bastore, 1) := by decide +kernel
theorem d_Program_findNothings_113 : decode b_Program_findNothings 113 = .ok (.return_, 1) := by decide +kernel
theorem d_Program_slice_0 : decode b_Program_slice 0 = .ok (.aload_n 0, 1) := by decide +kernel
theorem d_Program_slice_1 : decode b_Program_slice 1 = .ok (.invokevirtual 57, 3) := by decide +kernel
theorem d_Program_slice_4 : decode b_Program_slice 4 = .ok (.iconst 0, 1) := by decide +kernel
theorem d_Program_slice_5 : decode b_Program_slice 5 = .ok (.istore_n 1, 1) := by decide +kernel
theorem d_Program_slice_6 : decode b_Program_slice 6 = .ok (.iload_n 1, 1) := by decide +kernel
theorem d_Program_slice_7 : decode b_Program_slice 7 = .ok (.aload_n 0, 1) := by decide +kernel
theorem d_Program_slice_8 : decode b_Program_slice 8 = .ok (.getfield 47, 3) := by decide +kernel
theorem d_Program_slice_11 : decode b_Program_slice 11 = .ok (.if_icmp .ge 38, 3) := by decide +kernel
theorem d_Program_slice_14 : decode b_Program_slice 14 = .ok (.aload_n 0, 1) := by decide +kernel
theorem d_Program_slice_15 : decode b_Program_slice 15 = .ok (.getfield 24, 3) := by decide +kernel
theorem d_Program_slice_18 : decode b_Program_slice 18 = .ok (.iload_n 1, 1) := by decide +kernel
theorem d_Program_slice_19 : decode b_Program_slice 19 = .ok (.aload_n 0, 1) := by decide +kernel
theorem d_Program_slice_20 : decode b_Program_slice 20 = .ok (.iload_n 1, 1) := by decide +kernel
theorem d_Program_slice_21 : decode b_Program_slice 21 = .ok (.invokevirtual 60, 3) := by decide +kernel
theorem d_Program_slice_24 : decode b_Program_slice 24 = .ok (.ifCond .eq 7, 3) := by decide +kernel
theorem d_Program_slice_27 : decode b_Program_slice 27 = .ok (.iconst 0, 1) := by decide +kernel
theorem d_Program_slice_28 : decode b_Program_slice 28 = .ok (.goto 4, 3) := by decide +kernel
theorem d_Program_slice_31 : decode b_Program_slice 31 = .ok (.iconst 1, 1) := by decide +kernel
theorem d_Program_slice_32 : decode b_Program_slice 32 = .ok (.iastore, 1) := by decide +kernel
theorem d_Program_slice_33 : decode b_Program_slice 33 = .ok (.aload_n 0, 1) := by decide +kernel
theorem d_Program_slice_34 : decode b_Program_slice 34 = .ok (.iload_n 1, 1) := by decide +kernel
theorem d_Program_slice_35 : decode b_Program_slice 35 = .ok (.invokevirtual 63, 3) := by decide +kernel
theorem d_Program_slice_38 : decode b_Program_slice 38 = .ok (.aload_n 0, 1) := by decide +kernel
theorem d_Program_slice_39 : decode b_Program_slice 39 = .ok (.iload_n 1, 1) := by decide +kernel
theorem d_Program_slice_40 : decode b_Program_slice 40 = .ok (.invokevirtual 67, 3) := by decide +kernel
theorem d_Program_slice_43 : decode b_Program_slice 43 = .ok (.iinc 1 1, 3) := by decide +kernel
theorem d_Program_slice_46 : decode b_Program_slice 46 = .ok (.goto (-40), 3) := by decide +kernel
theorem d_Program_slice_49 : decode b_Program_slice 49 = .ok (.return_, 1) := by decide +kernel
theorem d_Program_append_0 : decode b_Program_append 0 = .ok (.aload_n 0, 1) := by decide +kernel
theorem d_Program_append_1 : decode b_Program_append 1 = .ok (.getfield 47, 3) := by decide +kernel
theorem d_Program_append_4 : decode b_Program_append 4 = .ok (.istore 5, 2) := by decide +kernel
theorem d_Program_append_6 : decode b_Program_append 6 = .ok (.aload_n 0, 1) := by decide +kernel
theorem d_Program_append_7 : decode b_Program_append 7 = .ok (.getfield 9, 3) := by decide +kernel
theorem d_Program_append_10 : decode b_Program_append 10 = .ok (.iload 5, 2) := by decide +kernel
theorem d_Program_append_12 : decode b_Program_append 12 = .ok (.iload_n 1, 1) := by decide +kernel
theorem d_Program_append_13 : decode b_Program_append 13 = .ok (.iastore, 1) := by decide +kernel
theorem d_Program_append_14 : decode b_Program_append 14 = .ok (.aload_n 0, 1) := by decide +kernel
theorem d_Program_append_15 : decode b_Program_append 15 = .ok (.getfield 15, 3) := by decide +kernel
theorem d_Program_append_18 : decode b_Program_append 18 = .ok (.iload 5, 2) := by decide +kernel
theorem d_Program_append_20 : decode b_Program_append 20 = .ok (.iload_n 2, 1) := by decide +kernel
theorem d_Program_append_21 : decode b_Program_append 21 = .ok (.iastore, 1) := by decide +kernel
theorem d_Program_append_22 : decode b_Program_append 22 = .ok (.aload_n 0, 1) := by decide +kernel
theorem d_Program_append_23 : decode b_Program_append 23 = .ok (.getfield 18, 3) := by decide +kernel
theorem d_Program_append_26 : decode b_Program_append 26 = .ok (.iload 5, 2) := by decide +kernel
theorem d_Program_append_28 : decode b_Program_append 28 = .ok (.iload_n 3, 1) := by decide +kernel
theorem d_Program_append_29 : decode b_Program_append 29 = .ok (.iastore, 1) := by decide +kernel
theorem d_Program_append_30 : decode b_Program_append 30 = .ok (.aload_n 0, 1) := by decide +kernel
theorem d_Program_append_31 : decode b_Program_append 31 = .ok (.getfield 21, 3) := by decide +kernel
theorem d_Program_append_34 : decode b_Program_append 34 = .ok (.iload 5, 2) := by decide +kernel
theorem d_Program_append_36 : decode b_Program_append 36 = .ok (.iload 4, 2) := by decide +kernel
theorem d_Program_append_38 : decode b_Program_append 38 = .ok (.iastore, 1) := by decide +kernel
theorem d_Program_append_39 : decode b_Program_append 39 = .ok (.aload_n 0, 1) := by decide +kernel
theorem d_Program_append_40 : decode b_Program_append 40 = .ok (.dup, 1) := by decide +kernel
theorem d_Program_append_41 : decode b_Program_append 41 = .ok (.getfield 47, 3) := by decide +kernel
theorem d_Program_append_44 : decode b_Program_append 44 = .ok (.iconst 1, 1) := by decide +kernel
theorem d_Program_append_45 : decode b_Program_append 45 = .ok (.iadd, 1) := by decide +kernel
theorem d_Program_append_46 : decode b_Program_append 46 = .ok (.putfield 47, 3) := by decide +kernel
theorem d_Program_append_49 : decode b_Program_append 49 = .ok (.aload_n 0, 1) := by decide +kernel
theorem d_Program_append_50 : decode b_Program_append 50 = .ok (.invokevirtual 51, 3) := by decide +kernel
theorem d_Program_append_53 : decode b_Program_append 53 = .ok (.iload 5, 2) := by decide +kernel
theorem d_Program_append_55 : decode b_Program_append 55 = .ok (.ireturn, 1) := by decide +kernel
theorem d_Fifo_empty_0 : decode b_Fifo_empty 0 = .ok (.aload_n 0, 1) := by decide +kernel
theorem d_Fifo_empty_1 : decode b_Fifo_empty 1 = .ok (.iconst 0, 1) := by decide +kernel
theorem d_Fifo_empty_2 : decode b_Fifo_empty 2 = .ok (.putfield 13, 3) := by decide +kernel
theorem d_Fifo_empty_5 : decode b_Fifo_empty 5 = .ok (.aload_n 0, 1) := by decide +kernel
theorem d_Fifo_empty_6 : decode b_Fifo_empty 6 = .ok (.iconst 0, 1) := by decide +kernel
theorem d_Fifo_empty_7 : decode b_Fifo_empty 7 = .ok (.putfield 17, 3) := by decide +kernel
theorem d_Fifo_empty_10 : decode b_Fifo_empty 10 = .ok (.return_, 1) := by decide +kernel
theorem d_StoreList_empty_0 : decode b_StoreList_empty 0 = .ok (.aload_n 0, 1) := by decide +kernel
theorem d_StoreList_empty_1 : decode b_StoreList_empty 1 = .ok (.iconst 0, 1) := by decide +kernel
theorem d_StoreList_empty_2 : decode b_StoreList_empty 2 = .ok (.putfield 25, 3) := by decide +kernel
theorem d_StoreList_empty_5 : decode b_StoreList_empty 5 = .ok (.aload_n 0, 1) := by decide +kernel
theorem d_StoreList_empty_6 : decode b_StoreList_empty 6 = .ok (.iconst 0, 1) := by decide +kernel
theorem d_StoreList_empty_7 : decode b_StoreList_empty 7 = .ok (.putfield 29, 3) := by decide +kernel
theorem d_StoreList_empty_10 : decode b_StoreList_empty 10 = .ok (.return_, 1) := by decide +kernel
theorem d_Link_begin_0 : decode b_Link_begin 0 = .ok (.aload_n 1, 1) := by decide +kernel
theorem d_Link_begin_1 : decode b_Link_begin 1 = .ok (.iconst 0, 1) := by decide +kernel
theorem d_Link_begin_2 : decode b_Link_begin 2 = .ok (.aload_n 0, 1) := by decide +kernel
theorem d_Link_begin_3 : decode b_Link_begin 3 = .ok (.getfield 9, 3) := by decide +kernel
theorem d_Link_begin_6 : decode b_Link_begin 6 = .ok (.iconst 0, 1) := by decide +kernel
theorem d_Link_begin_7 : decode b_Link_begin 7 = .ok (.bipush 32, 2) := by decide +kernel
theorem d_Link_begin_9 : decode b_Link_begin 9 = .ok (.invokestatic 45, 3) := by decide +kernel
theorem d_Link_begin_12 : decode b_Link_begin 12 = .ok (.aload_n 0, 1) := by decide +kernel
theorem d_Link_begin_13 : decode b_Link_begin 13 = .ok (.getfield 20, 3) := by decide +kernel
theorem d_Link_begin_16 : decode b_Link_begin 16 = .ok (.invokevirtual 51, 3) := by decide +kernel
theorem d_Link_begin_19 : decode b_Link_begin 19 = .ok (.aload_n 0, 1) := by decide +kernel
theorem d_Link_begin_20 : decode b_Link_begin 20 = .ok (.getfield 24, 3) := by decide +kernel
theorem d_Link_begin_23 : decode b_Link_begin 23 = .ok (.invokevirtual 51, 3) := by decide +kernel
theorem d_Link_begin_26 : decode b_Link_begin 26 = .ok (.aload_n 0, 1) := by decide +kernel
theorem d_Link_begin_27 : decode b_Link_begin 27 = .ok (.getfield 27, 3) := by decide +kernel
theorem d_Link_begin_30 : decode b_Link_begin 30 = .ok (.invokevirtual 51, 3) := by decide +kernel
theorem d_Link_begin_33 : decode b_Link_begin 33 = .ok (.aload_n 0, 1) := by decide +kernel
theorem d_Link_begin_34 : decode b_Link_begin 34 = .ok (.getfield 30, 3) := by decide +kernel
theorem d_Link_begin_37 : decode b_Link_begin 37 = .ok (.invokevirtual 51, 3) := by decide +kernel
theorem d_Link_begin_40 : decode b_Link_begin 40 = .ok (.aload_n 0, 1) := by decide +kernel
theorem d_Link_begin_41 : decode b_Link_begin 41 = .ok (.getfield 33, 3) := by decide +kernel
theorem d_Link_begin_44 : decode b_Link_begin 44 = .ok (.invokevirtual 51, 3) := by decide +kernel
theorem d_Link_begin_47 : decode b_Link_begin 47 = .ok (.aload_n 0, 1) := by decide +kernel
theorem d_Link_begin_48 : decode b_Link_begin 48 = .ok (.getfield 41, 3) := by decide +kernel
theorem d_Link_begin_51 : decode b_Link_begin 51 = .ok (.invokevirtual 54, 3) := by decide +kernel
theorem d_Link_begin_54 : decode b_Link_begin 54 = .ok (.return_, 1) := by decide +kernel
theorem d_Arrays_fill_0 : decode b_Arrays_fill 0 = .ok (.iconst 0, 1) := by decide +kernel
theorem d_Arrays_fill_1 : decode b_Arrays_fill 1 = .ok (.istore_n 2, 1) := by decide +kernel
theorem d_Arrays_fill_2 : decode b_Arrays_fill 2 = .ok (.aload_n 0, 1) := by decide +kernel
theorem d_Arrays_fill_3 : decode b_Arrays_fill 3 = .ok (.arraylength, 1) := by decide +kernel
theorem d_Arrays_fill_4 : decode b_Arrays_fill 4 = .ok (.istore_n 3, 1) := by decide +kernel
theorem d_Arrays_fill_5 : decode b_Arrays_fill 5 = .ok (.iload_n 2, 1) := by decide +kernel
theorem d_Arrays_fill_6 : decode b_Arrays_fill 6 = .ok (.iload_n 3, 1) := by decide +kernel
theorem d_Arrays_fill_7 : decode b_Arrays_fill 7 = .ok (.if_icmp .ge 13, 3) := by decide +kernel
theorem d_Arrays_fill_10 : decode b_Arrays_fill 10 = .ok (.aload_n 0, 1) := by decide +kernel
theorem d_Arrays_fill_11 : decode b_Arrays_fill 11 = .ok (.iload_n 2, 1) := by decide +kernel
theorem d_Arrays_fill_12 : decode b_Arrays_fill 12 = .ok (.iload_n 1, 1) := by decide +kernel
theorem d_Arrays_fill_13 : decode b_Arrays_fill 13 = .ok (.iastore, 1) := by decide +kernel
theorem d_Arrays_fill_14 : decode b_Arrays_fill 14 = .ok (.iinc 2 1, 3) := by decide +kernel
theorem d_Arrays_fill_17 : decode b_Arrays_fill 17 = .ok (.goto (-12), 3) := by decide +kernel
theorem d_Arrays_fill_20 : decode b_Arrays_fill 20 = .ok (.return_, 1) := by decide +kernel
theorem d_Stream_goOver_0 : decode b_Stream_goOver 0 = .ok (.aload_n 0, 1) := by decide +kernel
theorem d_Stream_goOver_1 : decode b_Stream_goOver 1 = .ok (.getfield 31, 3) := by decide +kernel
theorem d_Stream_goOver_4 : decode b_Stream_goOver 4 = .ok (.aload_n 0, 1) := by decide +kernel
theorem d_Stream_goOver_5 : decode b_Stream_goOver 5 = .ok (.getfield 62, 3) := by decide +kernel
theorem d_Stream_goOver_8 : decode b_Stream_goOver 8 = .ok (.getfield 66, 3) := by decide +kernel
theorem d_Stream_goOver_11 : decode b_Stream_goOver 11 = .ok (.if_icmp .ge 38, 3) := by decide +kernel
theorem d_Stream_goOver_14 : decode b_Stream_goOver 14 = .ok (.aload_n 0, 1) := by decide +kernel
theorem d_Stream_goOver_15 : decode b_Stream_goOver 15 = .ok (.getfield 13, 3) := by decide +kernel
theorem d_Stream_goOver_18 : decode b_Stream_goOver 18 = .ok (.aload_n 0, 1) := by decide +kernel
theorem d_Stream_goOver_19 : decode b_Stream_goOver 19 = .ok (.getfield 31, 3) := by decide +kernel
theorem d_Stream_goOver_22 : decode b_Stream_goOver 22 = .ok (.baload, 1) := by decide +kernel
theorem d_Stream_goOver_23 : decode b_Stream_goOver 23 = .ok (.ifCond .eq 26, 3) := by decide +kernel
theorem d_Stream_goOver_26 : decode b_Stream_goOver 26 = .ok (.aload_n 0, 1) := by decide +kernel
theorem d_Stream_goOver_27 : decode b_Stream_goOver 27 = .ok (.dup, 1) := by decide +kernel
theorem d_Stream_goOver_28 : decode b_Stream_goOver 28 = .ok (.getfield 31, 3) := by decide +kernel
theorem d_Stream_goOver_31 : decode b_Stream_goOver 31 = .ok (.iconst 1, 1) := by decide +kernel
theorem d_Stream_goOver_32 : decode b_Stream_goOver 32 = .ok (.iadd, 1) := by decide +kernel
theorem d_Stream_goOver_33 : decode b_Stream_goOver 33 = .ok (.putfield 31, 3) := by decide +kernel
theorem d_Stream_goOver_36 : decode b_Stream_goOver 36 = .ok (.aload_n 0, 1) := by decide +kernel
theorem d_Stream_goOver_37 : decode b_Stream_goOver 37 = .ok (.dup, 1) := by decide +kernel
theorem d_Stream_goOver_38 : decode b_Stream_goOver 38 = .ok (.getfield 27, 3) := by decide +kernel
theorem d_Stream_goOver_41 : decode b_Stream_goOver 41 = .ok (.iconst 1, 1) := by decide +kernel
theorem d_Stream_goOver_42 : decode b_Stream_goOver 42 = .ok (.iadd, 1) := by decide +kernel
theorem d_Stream_goOver_43 : decode b_Stream_goOver 43 = .ok (.putfield 27, 3) := by decide +kernel
theorem d_Stream_goOver_46 : decode b_Stream_goOver 46 = .ok (.goto (-46), 3) := by decide +kernel
theorem d_Stream_goOver_49 : decode b_Stream_goOver 49 = .ok (.return_, 1) := by decide +kernel
theorem d_Stream_begin_0 : decode b_Stream_begin 0 = .ok (.aload_n 0, 1) := by decide +kernel
theorem d_Stream_begin_1 : decode b_Stream_begin 1 = .ok (.getfield 17, 3) := by decide +kernel
theorem d_Stream_begin_4 : decode b_Stream_begin 4 = .ok (.iconst 0, 1) := by decide +kernel
theorem d_Stream_begin_5 : decode b_Stream_begin 5 = .ok (.invokestatic 21, 3) := by decide +kernel
theorem d_Stream_begin_8 : decode b_Stream_begin 8 = .ok (.aload_n 0, 1) := by decide +kernel
theorem d_Stream_begin_9 : decode b_Stream_begin 9 = .ok (.iconst 0, 1) := by decide +kernel
theorem d_Stream_begin_10 : decode b_Stream_begin 10 = .ok (.putfield 27, 3) := by decide +kernel
theorem d_Stream_begin_13 : decode b_Stream_begin 13 = .ok (.aload_n 0, 1) := by decide +kernel
theorem d_Stream_begin_14 : decode b_Stream_begin 14 = .ok (.iconst 0, 1) := by decide +kernel
theorem d_Stream_begin_15 : decode b_Stream_begin 15 = .ok (.putfield 31, 3) := by decide +kernel
theorem d_Stream_begin_18 : decode b_Stream_begin 18 = .ok (.aload_n 0, 1) := by decide +kernel
theorem d_Stream_begin_19 : decode b_Stream_begin 19 = .ok (.invokevirtual 34, 3) := by decide +kernel
theorem d_Stream_begin_22 : decode b_Stream_begin 22 = .ok (.return_, 1) := by decide +kernel
theorem d_AddressStream_begin_0 : decode b_AddressStream_begin 0 = .ok (.aload_n 0, 1) := by decide +kernel
theorem d_AddressStream_begin_1 : decode b_AddressStream_begin 1 = .ok (.iconst 0, 1) := by decide +kernel
theorem d_AddressStream_begin_2 : decode b_AddressStream_begin 2 = .ok (.putfield 15, 3) := by decide +kernel
theorem d_AddressStream_begin_5 : decode b_AddressStream_begin 5 = .ok (.aload_n 0, 1) := by decide +kernel
theorem d_AddressStream_begin_6 : decode b_AddressStream_begin 6 = .ok (.invokespecial 21, 3) := by decide +kernel
theorem d_AddressStream_begin_9 : decode b_AddressStream_begin 9 = .ok (.return_, 1) := by decide +kernel
theorem d_Written_empty_0 : decode b_Written_empty 0 = .ok (.aload_n 0, 1) := by decide +kernel
theorem d_Written_empty_1 : decode b_Written_empty 1 = .ok (.iconst 0, 1) := by decide +kernel
theorem d_Written_empty_2 : decode b_Written_empty 2 = .ok (.putfield 15, 3) := by decide +kernel
theorem d_Written_empty_5 : decode b_Written_empty 5 = .ok (.return_, 1) := by decide +kernel
theorem d_ValueStream_begin_0 : decode b_ValueStream_begin 0 = .ok (.aload_n 0, 1) := by decide +kernel
theorem d_ValueStream_begin_1 : decode b_ValueStream_begin 1 = .ok (.getfield 20, 3) := by decide +kernel
theorem d_ValueStream_begin_4 : decode b_ValueStream_begin 4 = .ok (.invokevirtual 26, 3) := by decide +kernel
theorem d_ValueStream_begin_7 : decode b_ValueStream_begin 7 = .ok (.aload_n 0, 1) := by decide +kernel
theorem d_ValueStream_begin_8 : decode b_ValueStream_begin 8 = .ok (.invokespecial 29, 3) := by decide +kernel
theorem d_ValueStream_begin_11 : decode b_ValueStream_begin 11 = .ok (.return_, 1) := by decide +kernel
theorem d_PlainRun_begin_0 : decode b_PlainRun_begin 0 = .ok (.aload_n 1, 1) := by decide +kernel
theorem d_PlainRun_begin_1 : decode b_PlainRun_begin 1 = .ok (.iconst 0, 1) := by decide +kernel
theorem d_PlainRun_begin_2 : decode b_PlainRun_begin 2 = .ok (.aload_n 0, 1) := by decide +kernel
theorem d_PlainRun_begin_3 : decode b_PlainRun_begin 3 = .ok (.getfield 9, 3) := by decide +kernel
theorem d_PlainRun_begin_6 : decode b_PlainRun_begin 6 = .ok (.iconst 0, 1) := by decide +kernel
theorem d_PlainRun_begin_7 : decode b_PlainRun_begin 7 = .ok (.bipush 32, 2) := by decide +kernel
theorem d_PlainRun_begin_9 : decode b_PlainRun_begin 9 = .ok (.invokestatic 24, 3) := by decide +kernel
theorem d_PlainRun_begin_12 : decode b_PlainRun_begin 12 = .ok (.aload_n 0, 1) := by decide +kernel
theorem d_PlainRun_begin_13 : decode b_PlainRun_begin 13 = .ok (.getfield 30, 3) := by decide +kernel
theorem d_PlainRun_begin_16 : decode b_PlainRun_begin 16 = .ok (.iconst 0, 1) := by decide +kernel
theorem d_PlainRun_begin_17 : decode b_PlainRun_begin 17 = .ok (.invokestatic 33, 3) := by decide +kernel
theorem d_PlainRun_begin_20 : decode b_PlainRun_begin 20 = .ok (.aload_n 0, 1) := by decide +kernel
theorem d_PlainRun_begin_21 : decode b_PlainRun_begin 21 = .ok (.getfield 20, 3) := by decide +kernel
theorem d_PlainRun_begin_24 : decode b_PlainRun_begin 24 = .ok (.invokevirtual 39, 3) := by decide +kernel
theorem d_PlainRun_begin_27 : decode b_PlainRun_begin 27 = .ok (.aload_n 0, 1) := by decide +kernel
theorem d_PlainRun_begin_28 : decode b_PlainRun_begin 28 = .ok (.iconst 0, 1) := by decide +kernel
theorem d_PlainRun_begin_29 : decode b_PlainRun_begin 29 = .ok (.putfield 42, 3) := by decide +kernel
theorem d_PlainRun_begin_32 : decode b_PlainRun_begin 32 = .ok (.return_, 1) := by decide +kernel
theorem d_SlippedStreams_beginAnew_0 : decode b_SlippedStreams_beginAnew 0 = .ok (.aload_n 0, 1) := by decide +kernel
theorem d_SlippedStreams_beginAnew_1 : decode b_SlippedStreams_beginAnew 1 = .ok (.getfield 23, 3) := by decide +kernel
theorem d_SlippedStreams_beginAnew_4 : decode b_SlippedStreams_beginAnew 4 = .ok (.aload_n 0, 1) := by decide +kernel
theorem d_SlippedStreams_beginAnew_5 : decode b_SlippedStreams_beginAnew 5 = .ok (.getfield 16, 3) := by decide +kernel
theorem d_SlippedStreams_beginAnew_8 : decode b_SlippedStreams_beginAnew 8 = .ok (.invokevirtual 166, 3) := by decide +kernel
theorem d_SlippedStreams_beginAnew_11 : decode b_SlippedStreams_beginAnew 11 = .ok (.aload_n 0, 1) := by decide +kernel
theorem d_SlippedStreams_beginAnew_12 : decode b_SlippedStreams_beginAnew 12 = .ok (.getfield 32, 3) := by decide +kernel
theorem d_SlippedStreams_beginAnew_15 : decode b_SlippedStreams_beginAnew 15 = .ok (.invokevirtual 170, 3) := by decide +kernel
theorem d_SlippedStreams_beginAnew_18 : decode b_SlippedStreams_beginAnew 18 = .ok (.aload_n 0, 1) := by decide +kernel
theorem d_SlippedStreams_beginAnew_19 : decode b_SlippedStreams_beginAnew 19 = .ok (.getfield 39, 3) := by decide +kernel
theorem d_SlippedStreams_beginAnew_22 : decode b_SlippedStreams_beginAnew 22 = .ok (.invokevirtual 172, 3) := by decide +kernel
theorem d_SlippedStreams_beginAnew_25 : decode b_SlippedStreams_beginAnew 25 = .ok (.aload_n 0, 1) := by decide +kernel
theorem d_SlippedStreams_beginAnew_26 : decode b_SlippedStreams_beginAnew 26 = .ok (.getfield 48, 3) := by decide +kernel
theorem d_SlippedStreams_beginAnew_29 : decode b_SlippedStreams_beginAnew 29 = .ok (.aload_n 0, 1) := by decide +kernel
theorem d_SlippedStreams_beginAnew_30 : decode b_SlippedStreams_beginAnew 30 = .ok (.getfield 16, 3) := by decide +kernel
theorem d_SlippedStreams_beginAnew_33 : decode b_SlippedStreams_beginAnew 33 = .ok (.invokevirtual 173, 3) := by decide +kernel
theorem d_SlippedStreams_beginAnew_36 : decode b_SlippedStreams_beginAnew 36 = .ok (.aload_n 0, 1) := by decide +kernel
theorem d_SlippedStreams_beginAnew_37 : decode b_SlippedStreams_beginAnew 37 = .ok (.iconst 0, 1) := by decide +kernel
theorem d_SlippedStreams_beginAnew_38 : decode b_SlippedStreams_beginAnew 38 = .ok (.putfield 149, 3) := by decide +kernel
theorem d_SlippedStreams_beginAnew_41 : decode b_SlippedStreams_beginAnew 41 = .ok (.return_, 1) := by decide +kernel
theorem d_SlippedStreams_add_0 : decode b_SlippedStreams_add 0 = .ok (.aload_n 0, 1) := by decide +kernel
theorem d_SlippedStreams_add_1 : decode b_SlippedStreams_add 1 = .ok (.getfield 10, 3) := by decide +kernel
theorem d_SlippedStreams_add_4 : decode b_SlippedStreams_add 4 = .ok (.getfield 52, 3) := by decide +kernel
theorem d_SlippedStreams_add_7 : decode b_SlippedStreams_add 7 = .ok (.bipush 24, 2) := by decide +kernel
theorem d_SlippedStreams_add_9 : decode b_SlippedStreams_add 9 = .ok (.if_icmp .ge 14, 3) := by decide +kernel
theorem d_SlippedStreams_add_12 : decode b_SlippedStreams_add 12 = .ok (.iload_n 1, 1) := by decide +kernel
theorem d_SlippedStreams_add_13 : decode b_SlippedStreams_add 13 = .ok (.iload_n 2, 1) := by decide +kernel
theorem d_SlippedStreams_add_14 : decode b_SlippedStreams_add 14 = .ok (.iload_n 3, 1) := by decide +kernel
theorem d_SlippedStreams_add_15 : decode b_SlippedStreams_add 15 = .ok (.iload 4, 2) := by decide +kernel
theorem d_SlippedStreams_add_17 : decode b_SlippedStreams_add 17 = .ok (.invokestatic 56, 3) := by decide +kernel
theorem d_SlippedStreams_add_20 : decode b_SlippedStreams_add 20 = .ok (.ifCond .ne 5, 3) := by decide +kernel
theorem d_SlippedStreams_add_23 : decode b_SlippedStreams_add 23 = .ok (.iconst (-1), 1) := by decide +kernel
theorem d_SlippedStreams_add_24 : decode b_SlippedStreams_add 24 = .ok (.ireturn, 1) := by decide +kernel
theorem d_SlippedStreams_add_25 : decode b_SlippedStreams_add 25 = .ok (.aload_n 0, 1) := by decide +kernel
theorem d_SlippedStreams_add_26 : decode b_SlippedStreams_add 26 = .ok (.getfield 10, 3) := by decide +kernel
theorem d_SlippedStreams_add_29 : decode b_SlippedStreams_add 29 = .ok (.iload_n 1, 1) := by decide +kernel
theorem d_SlippedStreams_add_30 : decode b_SlippedStreams_add 30 = .ok (.iload_n 2, 1) := by decide +kernel
theorem d_SlippedStreams_add_31 : decode b_SlippedStreams_add 31 = .ok (.iload_n 3, 1) := by decide +kernel
theorem d_SlippedStreams_add_32 : decode b_SlippedStreams_add 32 = .ok (.iload 4, 2) := by decide +kernel
theorem d_SlippedStreams_add_34 : decode b_SlippedStreams_add 34 = .ok (.invokevirtual 60, 3) := by decide +kernel
theorem d_SlippedStreams_add_37 : decode b_SlippedStreams_add 37 = .ok (.istore 5, 2) := by decide +kernel
theorem d_SlippedStreams_add_39 : decode b_SlippedStreams_add 39 = .ok (.aload_n 0, 1) := by decide +kernel
theorem d_SlippedStreams_add_40 : decode b_SlippedStreams_add 40 = .ok (.invokevirtual 64, 3) := by decide +kernel
theorem d_SlippedStreams_add_43 : decode b_SlippedStreams_add 43 = .ok (.iload 5, 2) := by decide +kernel
theorem d_SlippedStreams_add_45 : decode b_SlippedStreams_add 45 = .ok (.ireturn, 1) := by decide +kernel
theorem d_SlippedStreams_fill_0 : decode b_SlippedStreams_fill 0 = .ok (.iconst 0, 1) := by decide +kernel
theorem d_SlippedStreams_fill_1 : decode b_SlippedStreams_fill 1 = .ok (.istore_n 3, 1) := by decide +kernel
theorem d_SlippedStreams_fill_2 : decode b_SlippedStreams_fill 2 = .ok (.iload_n 3, 1) := by decide +kernel
theorem d_SlippedStreams_fill_3 : decode b_SlippedStreams_fill 3 = .ok (.bipush 32, 2) := by decide +kernel
theorem d_SlippedStreams_fill_5 : decode b_SlippedStreams_fill 5 = .ok (.if_icmp .ge 20, 3) := by decide +kernel
theorem d_SlippedStreams_fill_8 : decode b_SlippedStreams_fill 8 = .ok (.aload_n 0, 1) := by decide +kernel
theorem d_SlippedStreams_fill_9 : decode b_SlippedStreams_fill 9 = .ok (.getfield 16, 3) := by decide +kernel
theorem d_SlippedStreams_fill_12 : decode b_SlippedStreams_fill 12 = .ok (.iload_n 3, 1) := by decide +kernel
theorem d_SlippedStreams_fill_13 : decode b_SlippedStreams_fill 13 = .ok (.iload_n 1, 1) := by decide +kernel
theorem d_SlippedStreams_fill_14 : decode b_SlippedStreams_fill 14 = .ok (.iload_n 3, 1) := by decide +kernel
theorem d_SlippedStreams_fill_15 : decode b_SlippedStreams_fill 15 = .ok (.iload_n 2, 1) := by decide +kernel
theorem d_SlippedStreams_fill_16 : decode b_SlippedStreams_fill 16 = .ok (.imul, 1) := by decide +kernel
theorem d_SlippedStreams_fill_17 : decode b_SlippedStreams_fill 17 = .ok (.iadd, 1) := by decide +kernel
theorem d_SlippedStreams_fill_18 : decode b_SlippedStreams_fill 18 = .ok (.iastore, 1) := by decide +kernel
theorem d_SlippedStreams_fill_19 : decode b_SlippedStreams_fill 19 = .ok (.iinc 3 1, 3) := by decide +kernel
theorem d_SlippedStreams_fill_22 : decode b_SlippedStreams_fill 22 = .ok (.goto (-20), 3) := by decide +kernel
theorem d_SlippedStreams_fill_25 : decode b_SlippedStreams_fill 25 = .ok (.aload_n 0, 1) := by decide +kernel
theorem d_SlippedStreams_fill_26 : decode b_SlippedStreams_fill 26 = .ok (.invokevirtual 64, 3) := by decide +kernel
theorem d_SlippedStreams_fill_29 : decode b_SlippedStreams_fill 29 = .ok (.return_, 1) := by decide +kernel
theorem d_Program_removeAll_0 : decode b_Program_removeAll 0 = .ok (.aload_n 0, 1) := by decide +kernel
theorem d_Program_removeAll_1 : decode b_Program_removeAll 1 = .ok (.iconst 0, 1) := by decide +kernel
theorem d_Program_removeAll_2 : decode b_Program_removeAll 2 = .ok (.putfield 47, 3) := by decide +kernel
theorem d_Program_removeAll_5 : decode b_Program_removeAll 5 = .ok (.aload_n 0, 1) := by decide +kernel
theorem d_Program_removeAll_6 : decode b_Program_removeAll 6 = .ok (.invokevirtual 51, 3) := by decide +kernel
theorem d_Program_removeAll_9 : decode b_Program_removeAll 9 = .ok (.return_, 1) := by decide +kernel
theorem d_SlippedStreams_clear_0 : decode b_SlippedStreams_clear 0 = .ok (.aload_n 0, 1) := by decide +kernel
theorem d_SlippedStreams_clear_1 : decode b_SlippedStreams_clear 1 = .ok (.getfield 10, 3) := by decide +kernel
theorem d_SlippedStreams_clear_4 : decode b_SlippedStreams_clear 4 = .ok (.getfield 52, 3) := by decide +kernel
theorem d_SlippedStreams_clear_7 : decode b_SlippedStreams_clear 7 = .ok (.istore_n 1, 1) := by decide +kernel
theorem d_SlippedStreams_clear_8 : decode b_SlippedStreams_clear 8 = .ok (.aload_n 0, 1) := by decide +kernel
theorem d_SlippedStreams_clear_9 : decode b_SlippedStreams_clear 9 = .ok (.getfield 10, 3) := by decide +kernel
theorem d_SlippedStreams_clear_12 : decode b_SlippedStreams_clear 12 = .ok (.invokevirtual 67, 3) := by decide +kernel
theorem d_SlippedStreams_clear_15 : decode b_SlippedStreams_clear 15 = .ok (.aload_n 0, 1) := by decide +kernel
theorem d_SlippedStreams_clear_16 : decode b_SlippedStreams_clear 16 = .ok (.invokevirtual 64, 3) := by decide +kernel
theorem d_SlippedStreams_clear_19 : decode b_SlippedStreams_clear 19 = .ok (.iload_n 1, 1) := by decide +kernel
theorem d_SlippedStreams_clear_20 : decode b_SlippedStreams_clear 20 = .ok (.ireturn, 1) := by decide +kernel
theorem d_SlippedStreams_reset_0 : decode b_SlippedStreams_reset 0 = .ok (.aload_n 0, 1) := by decide +kernel
theorem d_SlippedStreams_reset_1 : decode b_SlippedStreams_reset 1 = .ok (.invokevirtual 64, 3) := by decide +kernel
theorem d_SlippedStreams_reset_4 : decode b_SlippedStreams_reset 4 = .ok (.return_, 1) := by decide +kernel
theorem d_SlippedStreams_streamOf_0 : decode b_SlippedStreams_streamOf 0 = .ok (.iload_n 1, 1) := by decide +kernel
theorem d_SlippedStreams_streamOf_1 : decode b_SlippedStreams_streamOf 1 = .ok (.ifCond .lt 26, 3) := by decide +kernel
theorem d_SlippedStreams_streamOf_4 : decode b_SlippedStreams_streamOf 4 = .ok (.iload_n 1, 1) := by decide +kernel
theorem d_SlippedStreams_streamOf_5 : decode b_SlippedStreams_streamOf 5 = .ok (.aload_n 0, 1) := by decide +kernel
theorem d_SlippedStreams_streamOf_6 : decode b_SlippedStreams_streamOf 6 = .ok (.getfield 10, 3) := by decide +kernel
theorem d_SlippedStreams_streamOf_9 : decode b_SlippedStreams_streamOf 9 = .ok (.getfield 52, 3) := by decide +kernel
theorem d_SlippedStreams_streamOf_12 : decode b_SlippedStreams_streamOf 12 = .ok (.if_icmp .ge 15, 3) := by decide +kernel
theorem d_SlippedStreams_streamOf_15 : decode b_SlippedStreams_streamOf 15 = .ok (.aload_n 0, 1) := by decide +kernel
theorem d_SlippedStreams_streamOf_16 : decode b_SlippedStreams_streamOf 16 = .ok (.getfield 10, 3) := by decide +kernel
theorem d_SlippedStreams_streamOf_19 : decode b_SlippedStreams_streamOf 19 = .ok (.getfield 70, 3) := by decide +kernel
theorem d_SlippedStreams_streamOf_22 : decode b_SlippedStreams_streamOf 22 = .ok (.iload_n 1, 1) := by decide +kernel
theorem d_SlippedStreams_streamOf_23 : decode b_SlippedStreams_streamOf 23 = .ok (.iaload, 1) := by decide +kernel
theorem d_SlippedStreams_streamOf_24 : decode b_SlippedStreams_streamOf 24 = .ok (.goto 4, 3) := by decide +kernel
theorem d_SlippedStreams_streamOf_27 : decode b_SlippedStreams_streamOf 27 = .ok (.iconst (-1), 1) := by decide +kernel
theorem d_SlippedStreams_streamOf_28 : decode b_SlippedStreams_streamOf 28 = .ok (.ireturn, 1) := by decide +kernel
theorem d_Integer_bitCount_0 : decode b_Integer_bitCount 0 = .ok (.iload_n 0, 1) := by decide +kernel
theorem d_Integer_bitCount_1 : decode b_Integer_bitCount 1 = .ok (.iload_n 0, 1) := by decide +kernel
theorem d_Integer_bitCount_2 : decode b_Integer_bitCount 2 = .ok (.iconst 1, 1) := by decide +kernel
theorem d_Integer_bitCount_3 : decode b_Integer_bitCount 3 = .ok (.iushr, 1) := by decide +kernel
theorem d_Integer_bitCount_4 : decode b_Integer_bitCount 4 = .ok (.ldc_w 265, 3) := by decide +kernel
theorem d_Integer_bitCount_7 : decode b_Integer_bitCount 7 = .ok (.iand, 1) := by decide +kernel
theorem d_Integer_bitCount_8 : decode b_Integer_bitCount 8 = .ok (.isub, 1) := by decide +kernel
theorem d_Integer_bitCount_9 : decode b_Integer_bitCount 9 = .ok (.istore_n 0, 1) := by decide +kernel
theorem d_Integer_bitCount_10 : decode b_Integer_bitCount 10 = .ok (.iload_n 0, 1) := by decide +kernel
theorem d_Integer_bitCount_11 : decode b_Integer_bitCount 11 = .ok (.ldc_w 266, 3) := by decide +kernel
theorem d_Integer_bitCount_14 : decode b_Integer_bitCount 14 = .ok (.iand, 1) := by decide +kernel
theorem d_Integer_bitCount_15 : decode b_Integer_bitCount 15 = .ok (.iload_n 0, 1) := by decide +kernel
theorem d_Integer_bitCount_16 : decode b_Integer_bitCount 16 = .ok (.iconst 2, 1) := by decide +kernel
theorem d_Integer_bitCount_17 : decode b_Integer_bitCount 17 = .ok (.iushr, 1) := by decide +kernel
theorem d_Integer_bitCount_18 : decode b_Integer_bitCount 18 = .ok (.ldc_w 266, 3) := by decide +kernel
theorem d_Integer_bitCount_21 : decode b_Integer_bitCount 21 = .ok (.iand, 1) := by decide +kernel
theorem d_Integer_bitCount_22 : decode b_Integer_bitCount 22 = .ok (.iadd, 1) := by decide +kernel
theorem d_Integer_bitCount_23 : decode b_Integer_bitCount 23 = .ok (.istore_n 0, 1) := by decide +kernel
theorem d_Integer_bitCount_24 : decode b_Integer_bitCount 24 = .ok (.iload_n 0, 1) := by decide +kernel
theorem d_Integer_bitCount_25 : decode b_Integer_bitCount 25 = .ok (.iload_n 0, 1) := by decide +kernel
theorem d_Integer_bitCount_26 : decode b_Integer_bitCount 26 = .ok (.iconst 4, 1) := by decide +kernel
theorem d_Integer_bitCount_27 : decode b_Integer_bitCount 27 = .ok (.iushr, 1) := by decide +kernel
theorem d_Integer_bitCount_28 : decode b_Integer_bitCount 28 = .ok (.iadd, 1) := by decide +kernel
theorem d_Integer_bitCount_29 : decode b_Integer_bitCount 29 = .ok (.ldc_w 267, 3) := by decide +kernel
theorem d_Integer_bitCount_32 : decode b_Integer_bitCount 32 = .ok (.iand, 1) := by decide +kernel
theorem d_Integer_bitCount_33 : decode b_Integer_bitCount 33 = .ok (.istore_n 0, 1) := by decide +kernel
theorem d_Integer_bitCount_34 : decode b_Integer_bitCount 34 = .ok (.iload_n 0, 1) := by decide +kernel
theorem d_Integer_bitCount_35 : decode b_Integer_bitCount 35 = .ok (.iload_n 0, 1) := by decide +kernel
theorem d_Integer_bitCount_36 : decode b_Integer_bitCount 36 = .ok (.bipush 8, 2) := by decide +kernel
theorem d_Integer_bitCount_38 : decode b_Integer_bitCount 38 = .ok (.iushr, 1) := by decide +kernel
theorem d_Integer_bitCount_39 : decode b_Integer_bitCount 39 = .ok (.iadd, 1) := by decide +kernel
theorem d_Integer_bitCount_40 : decode b_Integer_bitCount 40 = .ok (.istore_n 0, 1) := by decide +kernel
theorem d_Integer_bitCount_41 : decode b_Integer_bitCount 41 = .ok (.iload_n 0, 1) := by decide +kernel
theorem d_Integer_bitCount_42 : decode b_Integer_bitCount 42 = .ok (.iload_n 0, 1) := by decide +kernel
theorem d_Integer_bitCount_43 : decode b_Integer_bitCount 43 = .ok (.bipush 16, 2) := by decide +kernel
theorem d_Integer_bitCount_45 : decode b_Integer_bitCount 45 = .ok (.iushr, 1) := by decide +kernel
theorem d_Integer_bitCount_46 : decode b_Integer_bitCount 46 = .ok (.iadd, 1) := by decide +kernel
theorem d_Integer_bitCount_47 : decode b_Integer_bitCount 47 = .ok (.istore_n 0, 1) := by decide +kernel
theorem d_Integer_bitCount_48 : decode b_Integer_bitCount 48 = .ok (.iload_n 0, 1) := by decide +kernel
theorem d_Integer_bitCount_49 : decode b_Integer_bitCount 49 = .ok (.bipush 63, 2) := by decide +kernel
theorem d_Integer_bitCount_51 : decode b_Integer_bitCount 51 = .ok (.iand, 1) := by decide +kernel
theorem d_Integer_bitCount_52 : decode b_Integer_bitCount 52 = .ok (.ireturn, 1) := by decide +kernel
theorem d_SlippedStreams_addressRegisters_0 : decode b_SlippedStreams_addressRegisters 0 = .ok (.aload_n 0, 1) := by decide +kernel
theorem d_SlippedStreams_addressRegisters_1 : decode b_SlippedStreams_addressRegisters 1 = .ok (.getfield 10, 3) := by decide +kernel
theorem d_SlippedStreams_addressRegisters_4 : decode b_SlippedStreams_addressRegisters 4 = .ok (.getfield 73, 3) := by decide +kernel
theorem d_SlippedStreams_addressRegisters_7 : decode b_SlippedStreams_addressRegisters 7 = .ok (.invokestatic 76, 3) := by decide +kernel
theorem d_SlippedStreams_addressRegisters_10 : decode b_SlippedStreams_addressRegisters 10 = .ok (.ireturn, 1) := by decide +kernel
theorem d_SlippedStreams_isMoveCount_0 : decode b_SlippedStreams_isMoveCount 0 = .ok (.iload_n 0, 1) := by decide +kernel
theorem d_SlippedStreams_isMoveCount_1 : decode b_SlippedStreams_isMoveCount 1 = .ok (.iconst 1, 1) := by decide +kernel
theorem d_SlippedStreams_isMoveCount_2 : decode b_SlippedStreams_isMoveCount 2 = .ok (.if_icmp .lt 13, 3) := by decide +kernel
theorem d_SlippedStreams_isMoveCount_5 : decode b_SlippedStreams_isMoveCount 5 = .ok (.iload_n 0, 1) := by decide +kernel
theorem d_SlippedStreams_isMoveCount_6 : decode b_SlippedStreams_isMoveCount 6 = .ok (.bipush 50, 2) := by decide +kernel
theorem d_SlippedStreams_isMoveCount_8 : decode b_SlippedStreams_isMoveCount 8 = .ok (.if_icmp .gt 7, 3) := by decide +kernel
theorem d_SlippedStreams_isMoveCount_11 : decode b_SlippedStreams_isMoveCount 11 = .ok (.iconst 1, 1) := by decide +kernel
theorem d_SlippedStreams_isMoveCount_12 : decode b_SlippedStreams_isMoveCount 12 = .ok (.goto 4, 3) := by decide +kernel
theorem d_SlippedStreams_isMoveCount_15 : decode b_SlippedStreams_isMoveCount 15 = .ok (.iconst 0, 1) := by decide +kernel
theorem d_SlippedStreams_isMoveCount_16 : decode b_SlippedStreams_isMoveCount 16 = .ok (.ireturn, 1) := by decide +kernel
theorem d_Run_hasEnded_0 : decode b_Run_hasEnded 0 = .ok (.aload_n 0, 1) := by decide +kernel
theorem d_Run_hasEnded_1 : decode b_Run_hasEnded 1 = .ok (.getfield 23, 3) := by decide +kernel
theorem d_Run_hasEnded_4 : decode b_Run_hasEnded 4 = .ok (.aload_n 0, 1) := by decide +kernel
theorem d_Run_hasEnded_5 : decode b_Run_hasEnded 5 = .ok (.getfield 15, 3) := by decide +kernel
theorem d_Run_hasEnded_8 : decode b_Run_hasEnded 8 = .ok (.getfield 27, 3) := by decide +kernel
theorem d_Run_hasEnded_11 : decode b_Run_hasEnded 11 = .ok (.if_icmp .lt 7, 3) := by decide +kernel
theorem d_Run_hasEnded_14 : decode b_Run_hasEnded 14 = .ok (.iconst 1, 1) := by decide +kernel
theorem d_Run_hasEnded_15 : decode b_Run_hasEnded 15 = .ok (.goto 4, 3) := by decide +kernel
theorem d_Run_hasEnded_18 : decode b_Run_hasEnded 18 = .ok (.iconst 0, 1) := by decide +kernel
theorem d_Run_hasEnded_19 : decode b_Run_hasEnded 19 = .ok (.ireturn, 1) := by decide +kernel
theorem d_AddressStream_isAtOutcome_0 : decode b_AddressStream_isAtOutcome 0 = .ok (.aload_n 0, 1) := by decide +kernel
theorem d_AddressStream_isAtOutcome_1 : decode b_AddressStream_isAtOutcome 1 = .ok (.invokevirtual 25, 3) := by decide +kernel
theorem d_AddressStream_isAtOutcome_4 : decode b_AddressStream_isAtOutcome 4 = .ok (.ifCond .ne 59, 3) := by decide +kernel
theorem d_AddressStream_isAtOutcome_7 : decode b_AddressStream_isAtOutcome 7 = .ok (.aload_n 0, 1) := by decide +kernel
theorem d_AddressStream_isAtOutcome_8 : decode b_AddressStream_isAtOutcome 8 = .ok (.getfield 29, 3) := by decide +kernel
theorem d_AddressStream_isAtOutcome_11 : decode b_AddressStream_isAtOutcome 11 = .ok (.getfield 33, 3) := by decide +kernel
theorem d_AddressStream_isAtOutcome_14 : decode b_AddressStream_isAtOutcome 14 = .ok (.aload_n 0, 1) := by decide +kernel
theorem d_AddressStream_isAtOutcome_15 : decode b_AddressStream_isAtOutcome 15 = .ok (.getfield 37, 3) := by decide +kernel
theorem d_AddressStream_isAtOutcome_18 : decode b_AddressStream_isAtOutcome 18 = .ok (.iaload, 1) := by decide +kernel
theorem d_AddressStream_isAtOutcome_19 : decode b_AddressStream_isAtOutcome 19 = .ok (.iconst 1, 1) := by decide +kernel
theorem d_AddressStream_isAtOutcome_20 : decode b_AddressStream_isAtOutcome 20 = .ok (.if_icmp .ne 43, 3) := by decide +kernel
theorem d_AddressStream_isAtOutcome_23 : decode b_AddressStream_isAtOutcome 23 = .ok (.aload_n 0, 1) := by decide +kernel
theorem d_AddressStream_isAtOutcome_24 : decode b_AddressStream_isAtOutcome 24 = .ok (.getfield 29, 3) := by decide +kernel
theorem d_AddressStream_isAtOutcome_27 : decode b_AddressStream_isAtOutcome 27 = .ok (.aload_n 0, 1) := by decide +kernel
theorem d_AddressStream_isAtOutcome_28 : decode b_AddressStream_isAtOutcome 28 = .ok (.getfield 37, 3) := by decide +kernel
theorem d_AddressStream_isAtOutcome_31 : decode b_AddressStream_isAtOutcome 31 = .ok (.invokevirtual 48, 3) := by decide +kernel
theorem d_AddressStream_isAtOutcome_34 : decode b_AddressStream_isAtOutcome 34 = .ok (.ifCond .eq 29, 3) := by decide +kernel
theorem d_AddressStream_isAtOutcome_37 : decode b_AddressStream_isAtOutcome 37 = .ok (.aload_n 0, 1) := by decide +kernel
theorem d_AddressStream_isAtOutcome_38 : decode b_AddressStream_isAtOutcome 38 = .ok (.getfield 15, 3) := by decide +kernel
theorem d_AddressStream_isAtOutcome_41 : decode b_AddressStream_isAtOutcome 41 = .ok (.ifCond .ne 18, 3) := by decide +kernel
theorem d_AddressStream_isAtOutcome_44 : decode b_AddressStream_isAtOutcome 44 = .ok (.aload_n 0, 1) := by decide +kernel
theorem d_AddressStream_isAtOutcome_45 : decode b_AddressStream_isAtOutcome 45 = .ok (.getfield 29, 3) := by decide +kernel
theorem d_AddressStream_isAtOutcome_48 : decode b_AddressStream_isAtOutcome 48 = .ok (.getfield 51, 3) := by decide +kernel
theorem d_AddressStream_isAtOutcome_51 : decode b_AddressStream_isAtOutcome 51 = .ok (.aload_n 0, 1) := by decide +kernel
theorem d_AddressStream_isAtOutcome_52 : decode b_AddressStream_isAtOutcome 52 = .ok (.getfield 37, 3) := by decide +kernel
theorem d_AddressStream_isAtOutcome_55 : decode b_AddressStream_isAtOutcome 55 = .ok (.iaload, 1) := by decide +kernel
theorem d_AddressStream_isAtOutcome_56 : decode b_AddressStream_isAtOutcome 56 = .ok (.ifCond .ne 7, 3) := by decide +kernel
theorem d_AddressStream_isAtOutcome_59 : decode b_AddressStream_isAtOutcome 59 = .ok (.iconst 1, 1) := by decide +kernel
theorem d_AddressStream_isAtOutcome_60 : decode b_AddressStream_isAtOutcome 60 = .ok (.goto 4, 3) := by decide +kernel
theorem d_AddressStream_isAtOutcome_63 : decode b_AddressStream_isAtOutcome 63 = .ok (.iconst 0, 1) := by decide +kernel
theorem d_AddressStream_isAtOutcome_64 : decode b_AddressStream_isAtOutcome 64 = .ok (.ireturn, 1) := by decide +kernel
theorem d_Fifo_hasRoomFor_0 : decode b_Fifo_hasRoomFor 0 = .ok (.aload_n 0, 1) := by decide +kernel
