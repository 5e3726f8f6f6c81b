section
-- ===== PART A: goes FIRST, ahead of the names: the tables' words, and 'selects' of the private methods out of them =====
/-- a private method of a class that the tables say can be made, by its rows of tables_1 -/
def lw_okq (q : MethodName × Nat) : Prop := (q.1.cls ≠ "java/lang/invoke/MethodHandle" ∧ q.1.cls ≠ "java/lang/invoke/VarHandle") ∧ Cond.instantiable q.1.cls q.2 ∈ tables_1 ∧ Cond.privateMethod q.1 ∈ tables_1 ∧ Cond.instanceMethod q.1 ∈ tables_1
theorem lw_p0 : lw_okq (⟨"SlippedStreams$Program", "slice", "()V"⟩, 12) := ⟨⟨by decide +kernel, by decide +kernel⟩, List.mem_of_getElem? (i := 26) (by decide +kernel), List.mem_of_getElem? (i := 346) (by decide +kernel), List.mem_of_getElem? (i := 347) (by decide +kernel)⟩
theorem lw_p1 : lw_okq (⟨"SlippedStreams$Program", "findAddressRegisters", "()V"⟩, 12) := ⟨⟨by decide +kernel, by decide +kernel⟩, List.mem_of_getElem? (i := 26) (by decide +kernel), List.mem_of_getElem? (i := 350) (by decide +kernel), List.mem_of_getElem? (i := 351) (by decide +kernel)⟩
theorem lw_p2 : lw_okq (⟨"SlippedStreams$Program", "belongsToAddresses", "(I)Z"⟩, 12) := ⟨⟨by decide +kernel, by decide +kernel⟩, List.mem_of_getElem? (i := 26) (by decide +kernel), List.mem_of_getElem? (i := 362) (by decide +kernel), List.mem_of_getElem? (i := 363) (by decide +kernel)⟩
theorem lw_p3 : lw_okq (⟨"SlippedStreams$Program", "findPassed", "(I)V"⟩, 12) := ⟨⟨by decide +kernel, by decide +kernel⟩, List.mem_of_getElem? (i := 26) (by decide +kernel), List.mem_of_getElem? (i := 370) (by decide +kernel), List.mem_of_getElem? (i := 371) (by decide +kernel)⟩
theorem lw_p4 : lw_okq (⟨"SlippedStreams$Program", "firstRead", "(I)I"⟩, 12) := ⟨⟨by decide +kernel, by decide +kernel⟩, List.mem_of_getElem? (i := 26) (by decide +kernel), List.mem_of_getElem? (i := 374) (by decide +kernel), List.mem_of_getElem? (i := 375) (by decide +kernel)⟩
theorem lw_p5 : lw_okq (⟨"SlippedStreams$Program", "secondRead", "(I)I"⟩, 12) := ⟨⟨by decide +kernel, by decide +kernel⟩, List.mem_of_getElem? (i := 26) (by decide +kernel), List.mem_of_getElem? (i := 378) (by decide +kernel), List.mem_of_getElem? (i := 379) (by decide +kernel)⟩
theorem lw_p6 : lw_okq (⟨"SlippedStreams$Program", "findNothings", "(I)V"⟩, 12) := ⟨⟨by decide +kernel, by decide +kernel⟩, List.mem_of_getElem? (i := 26) (by decide +kernel), List.mem_of_getElem? (i := 382) (by decide +kernel), List.mem_of_getElem? (i := 383) (by decide +kernel)⟩
theorem lw_p7 : lw_okq (⟨"SlippedStreams", "beginAnew", "()V"⟩, 7) := ⟨⟨by decide +kernel, by decide +kernel⟩, List.mem_of_getElem? (i := 18) (by decide +kernel), List.mem_of_getElem? (i := 386) (by decide +kernel), List.mem_of_getElem? (i := 387) (by decide +kernel)⟩
theorem lw_p8 : lw_okq (⟨"SlippedStreams$AddressStream", "doOwn", "(I)Z"⟩, 7) := ⟨⟨by decide +kernel, by decide +kernel⟩, List.mem_of_getElem? (i := 190) (by decide +kernel), List.mem_of_getElem? (i := 490) (by decide +kernel), List.mem_of_getElem? (i := 491) (by decide +kernel)⟩
theorem lw_p9 : lw_okq (⟨"SlippedStreams$AddressStream", "load", "(I)Z"⟩, 7) := ⟨⟨by decide +kernel, by decide +kernel⟩, List.mem_of_getElem? (i := 190) (by decide +kernel), List.mem_of_getElem? (i := 494) (by decide +kernel), List.mem_of_getElem? (i := 495) (by decide +kernel)⟩
theorem lw_p10 : lw_okq (⟨"SlippedStreams$StoreList", "slot", "(I)I"⟩, 6) := ⟨⟨by decide +kernel, by decide +kernel⟩, List.mem_of_getElem? (i := 122) (by decide +kernel), List.mem_of_getElem? (i := 508) (by decide +kernel), List.mem_of_getElem? (i := 509) (by decide +kernel)⟩
theorem lw_p11 : lw_okq (⟨"SlippedStreams$AddressStream", "store", "(I)Z"⟩, 7) := ⟨⟨by decide +kernel, by decide +kernel⟩, List.mem_of_getElem? (i := 190) (by decide +kernel), List.mem_of_getElem? (i := 518) (by decide +kernel), List.mem_of_getElem? (i := 519) (by decide +kernel)⟩
theorem lw_p12 : lw_okq (⟨"SlippedStreams$StoreList", "know", "(II)V"⟩, 6) := ⟨⟨by decide +kernel, by decide +kernel⟩, List.mem_of_getElem? (i := 122) (by decide +kernel), List.mem_of_getElem? (i := 535) (by decide +kernel), List.mem_of_getElem? (i := 536) (by decide +kernel)⟩
theorem lw_p13 : lw_okq (⟨"SlippedStreams$AddressStream", "serve", "(I)Z"⟩, 7) := ⟨⟨by decide +kernel, by decide +kernel⟩, List.mem_of_getElem? (i := 190) (by decide +kernel), List.mem_of_getElem? (i := 583) (by decide +kernel), List.mem_of_getElem? (i := 584) (by decide +kernel)⟩
theorem lw_p14 : lw_okq (⟨"SlippedStreams$AddressStream", "sendLoad", "(I)Z"⟩, 7) := ⟨⟨by decide +kernel, by decide +kernel⟩, List.mem_of_getElem? (i := 190) (by decide +kernel), List.mem_of_getElem? (i := 587) (by decide +kernel), List.mem_of_getElem? (i := 588) (by decide +kernel)⟩
theorem lw_p15 : lw_okq (⟨"SlippedStreams$AddressStream", "hand", "(I)V"⟩, 7) := ⟨⟨by decide +kernel, by decide +kernel⟩, List.mem_of_getElem? (i := 190) (by decide +kernel), List.mem_of_getElem? (i := 604) (by decide +kernel), List.mem_of_getElem? (i := 605) (by decide +kernel)⟩
def lw_privs_1 : List (MethodName × Nat) := [(⟨"SlippedStreams$Program", "slice", "()V"⟩, 12), (⟨"SlippedStreams$Program", "findAddressRegisters", "()V"⟩, 12), (⟨"SlippedStreams$Program", "belongsToAddresses", "(I)Z"⟩, 12), (⟨"SlippedStreams$Program", "findPassed", "(I)V"⟩, 12), (⟨"SlippedStreams$Program", "firstRead", "(I)I"⟩, 12), (⟨"SlippedStreams$Program", "secondRead", "(I)I"⟩, 12), (⟨"SlippedStreams$Program", "findNothings", "(I)V"⟩, 12), (⟨"SlippedStreams", "beginAnew", "()V"⟩, 7), (⟨"SlippedStreams$AddressStream", "doOwn", "(I)Z"⟩, 7), (⟨"SlippedStreams$AddressStream", "load", "(I)Z"⟩, 7), (⟨"SlippedStreams$StoreList", "slot", "(I)I"⟩, 6), (⟨"SlippedStreams$AddressStream", "store", "(I)Z"⟩, 7), (⟨"SlippedStreams$StoreList", "know", "(II)V"⟩, 6), (⟨"SlippedStreams$AddressStream", "serve", "(I)Z"⟩, 7), (⟨"SlippedStreams$AddressStream", "sendLoad", "(I)Z"⟩, 7), (⟨"SlippedStreams$AddressStream", "hand", "(I)V"⟩, 7)]
theorem lw_r1 : ∀ q ∈ lw_privs_1, lw_okq q := List.forall_mem_cons.mpr ⟨lw_p0, List.forall_mem_cons.mpr ⟨lw_p1, List.forall_mem_cons.mpr ⟨lw_p2, List.forall_mem_cons.mpr ⟨lw_p3, List.forall_mem_cons.mpr ⟨lw_p4, List.forall_mem_cons.mpr ⟨lw_p5, List.forall_mem_cons.mpr ⟨lw_p6, List.forall_mem_cons.mpr ⟨lw_p7, List.forall_mem_cons.mpr ⟨lw_p8, List.forall_mem_cons.mpr ⟨lw_p9, List.forall_mem_cons.mpr ⟨lw_p10, List.forall_mem_cons.mpr ⟨lw_p11, List.forall_mem_cons.mpr ⟨lw_p12, List.forall_mem_cons.mpr ⟨lw_p13, List.forall_mem_cons.mpr ⟨lw_p14, List.forall_mem_cons.mpr ⟨lw_p15, fun _ h => absurd h List.not_mem_nil⟩⟩⟩⟩⟩⟩⟩⟩⟩⟩⟩⟩⟩⟩⟩⟩
theorem lw_p16 : lw_okq (⟨"SlippedStreams$PlainRun", "perform", "(I)V"⟩, 5) := ⟨⟨by decide +kernel, by decide +kernel⟩, List.mem_of_getElem? (i := 290) (by decide +kernel), List.mem_of_getElem? (i := 621) (by decide +kernel), List.mem_of_getElem? (i := 622) (by decide +kernel)⟩
theorem lw_p17 : lw_okq (⟨"SlippedStreams$ValueStream", "receiveLoad", "(I)Z"⟩, 7) := ⟨⟨by decide +kernel, by decide +kernel⟩, List.mem_of_getElem? (i := 259) (by decide +kernel), List.mem_of_getElem? (i := 641) (by decide +kernel), List.mem_of_getElem? (i := 642) (by decide +kernel)⟩
theorem lw_p18 : lw_okq (⟨"SlippedStreams$ValueStream", "doOwn", "(I)Z"⟩, 7) := ⟨⟨by decide +kernel, by decide +kernel⟩, List.mem_of_getElem? (i := 259) (by decide +kernel), List.mem_of_getElem? (i := 649) (by decide +kernel), List.mem_of_getElem? (i := 650) (by decide +kernel)⟩
theorem lw_p19 : lw_okq (⟨"SlippedStreams$ValueStream", "receive", "(I)V"⟩, 7) := ⟨⟨by decide +kernel, by decide +kernel⟩, List.mem_of_getElem? (i := 259) (by decide +kernel), List.mem_of_getElem? (i := 655) (by decide +kernel), List.mem_of_getElem? (i := 656) (by decide +kernel)⟩
theorem lw_p20 : lw_okq (⟨"SlippedStreams$ValueStream", "giveStored", "(I)Z"⟩, 7) := ⟨⟨by decide +kernel, by decide +kernel⟩, List.mem_of_getElem? (i := 259) (by decide +kernel), List.mem_of_getElem? (i := 669) (by decide +kernel), List.mem_of_getElem? (i := 670) (by decide +kernel)⟩
theorem lw_p21 : lw_okq (⟨"SlippedStreams", "noteLoss", "()V"⟩, 7) := ⟨⟨by decide +kernel, by decide +kernel⟩, List.mem_of_getElem? (i := 18) (by decide +kernel), List.mem_of_getElem? (i := 678) (by decide +kernel), List.mem_of_getElem? (i := 679) (by decide +kernel)⟩
theorem lw_p22 : lw_okq (⟨"SlippedStreamsModel", "slice", "()V"⟩, 27) := ⟨⟨by decide +kernel, by decide +kernel⟩, List.mem_of_getElem? (i := 756) (by decide +kernel), List.mem_of_getElem? (i := 851) (by decide +kernel), List.mem_of_getElem? (i := 852) (by decide +kernel)⟩
theorem lw_p23 : lw_okq (⟨"SlippedStreamsModel", "goOver", "(I)V"⟩, 27) := ⟨⟨by decide +kernel, by decide +kernel⟩, List.mem_of_getElem? (i := 756) (by decide +kernel), List.mem_of_getElem? (i := 862) (by decide +kernel), List.mem_of_getElem? (i := 863) (by decide +kernel)⟩
theorem lw_p24 : lw_okq (⟨"SlippedStreamsModel", "isNothing", "(II)Z"⟩, 27) := ⟨⟨by decide +kernel, by decide +kernel⟩, List.mem_of_getElem? (i := 756) (by decide +kernel), List.mem_of_getElem? (i := 866) (by decide +kernel), List.mem_of_getElem? (i := 867) (by decide +kernel)⟩
theorem lw_p25 : lw_okq (⟨"SlippedStreamsModel", "isBranch", "(I)Z"⟩, 27) := ⟨⟨by decide +kernel, by decide +kernel⟩, List.mem_of_getElem? (i := 756) (by decide +kernel), List.mem_of_getElem? (i := 870) (by decide +kernel), List.mem_of_getElem? (i := 871) (by decide +kernel)⟩
theorem lw_p26 : lw_okq (⟨"SlippedStreamsModel", "belongs", "(I)I"⟩, 27) := ⟨⟨by decide +kernel, by decide +kernel⟩, List.mem_of_getElem? (i := 756) (by decide +kernel), List.mem_of_getElem? (i := 874) (by decide +kernel), List.mem_of_getElem? (i := 875) (by decide +kernel)⟩
theorem lw_p27 : lw_okq (⟨"SlippedStreamsModel", "howMany", "(I)I"⟩, 27) := ⟨⟨by decide +kernel, by decide +kernel⟩, List.mem_of_getElem? (i := 756) (by decide +kernel), List.mem_of_getElem? (i := 878) (by decide +kernel), List.mem_of_getElem? (i := 879) (by decide +kernel)⟩
theorem lw_p28 : lw_okq (⟨"SlippedStreamsModel", "handed", "(II)I"⟩, 27) := ⟨⟨by decide +kernel, by decide +kernel⟩, List.mem_of_getElem? (i := 756) (by decide +kernel), List.mem_of_getElem? (i := 882) (by decide +kernel), List.mem_of_getElem? (i := 883) (by decide +kernel)⟩
theorem lw_p29 : lw_okq (⟨"SlippedStreamsModel", "reads", "(II)I"⟩, 27) := ⟨⟨by decide +kernel, by decide +kernel⟩, List.mem_of_getElem? (i := 756) (by decide +kernel), List.mem_of_getElem? (i := 886) (by decide +kernel), List.mem_of_getElem? (i := 887) (by decide +kernel)⟩
theorem lw_p30 : lw_okq (⟨"SlippedStreamsModel", "moveAddress", "()Z"⟩, 27) := ⟨⟨by decide +kernel, by decide +kernel⟩, List.mem_of_getElem? (i := 756) (by decide +kernel), List.mem_of_getElem? (i := 906) (by decide +kernel), List.mem_of_getElem? (i := 907) (by decide +kernel)⟩
theorem lw_p31 : lw_okq (⟨"SlippedStreamsModel", "load", "(I)Z"⟩, 27) := ⟨⟨by decide +kernel, by decide +kernel⟩, List.mem_of_getElem? (i := 756) (by decide +kernel), List.mem_of_getElem? (i := 910) (by decide +kernel), List.mem_of_getElem? (i := 911) (by decide +kernel)⟩
def lw_privs_2 : List (MethodName × Nat) := [(⟨"SlippedStreams$PlainRun", "perform", "(I)V"⟩, 5), (⟨"SlippedStreams$ValueStream", "receiveLoad", "(I)Z"⟩, 7), (⟨"SlippedStreams$ValueStream", "doOwn", "(I)Z"⟩, 7), (⟨"SlippedStreams$ValueStream", "receive", "(I)V"⟩, 7), (⟨"SlippedStreams$ValueStream", "giveStored", "(I)Z"⟩, 7), (⟨"SlippedStreams", "noteLoss", "()V"⟩, 7), (⟨"SlippedStreamsModel", "slice", "()V"⟩, 27), (⟨"SlippedStreamsModel", "goOver", "(I)V"⟩, 27), (⟨"SlippedStreamsModel", "isNothing", "(II)Z"⟩, 27), (⟨"SlippedStreamsModel", "isBranch", "(I)Z"⟩, 27), (⟨"SlippedStreamsModel", "belongs", "(I)I"⟩, 27), (⟨"SlippedStreamsModel", "howMany", "(I)I"⟩, 27), (⟨"SlippedStreamsModel", "handed", "(II)I"⟩, 27), (⟨"SlippedStreamsModel", "reads", "(II)I"⟩, 27), (⟨"SlippedStreamsModel", "moveAddress", "()Z"⟩, 27), (⟨"SlippedStreamsModel", "load", "(I)Z"⟩, 27)]
theorem lw_r2 : ∀ q ∈ lw_privs_2, lw_okq q := List.forall_mem_cons.mpr ⟨lw_p16, List.forall_mem_cons.mpr ⟨lw_p17, List.forall_mem_cons.mpr ⟨lw_p18, List.forall_mem_cons.mpr ⟨lw_p19, List.forall_mem_cons.mpr ⟨lw_p20, List.forall_mem_cons.mpr ⟨lw_p21, List.forall_mem_cons.mpr ⟨lw_p22, List.forall_mem_cons.mpr ⟨lw_p23, List.forall_mem_cons.mpr ⟨lw_p24, List.forall_mem_cons.mpr ⟨lw_p25, List.forall_mem_cons.mpr ⟨lw_p26, List.forall_mem_cons.mpr ⟨lw_p27, List.forall_mem_cons.mpr ⟨lw_p28, List.forall_mem_cons.mpr ⟨lw_p29, List.forall_mem_cons.mpr ⟨lw_p30, List.forall_mem_cons.mpr ⟨lw_p31, fun _ h => absurd h List.not_mem_nil⟩⟩⟩⟩⟩⟩⟩⟩⟩⟩⟩⟩⟩⟩⟩⟩
theorem lw_p32 : lw_okq (⟨"SlippedStreamsModel", "isInList", "(I)Z"⟩, 27) := ⟨⟨by decide +kernel, by decide +kernel⟩, List.mem_of_getElem? (i := 756) (by decide +kernel), List.mem_of_getElem? (i := 914) (by decide +kernel), List.mem_of_getElem? (i := 915) (by decide +kernel)⟩
theorem lw_p33 : lw_okq (⟨"SlippedStreamsModel", "hasRoom", "(II)Z"⟩, 27) := ⟨⟨by decide +kernel, by decide +kernel⟩, List.mem_of_getElem? (i := 756) (by decide +kernel), List.mem_of_getElem? (i := 918) (by decide +kernel), List.mem_of_getElem? (i := 919) (by decide +kernel)⟩
theorem lw_p34 : lw_okq (⟨"SlippedStreamsModel", "put", "(II)V"⟩, 27) := ⟨⟨by decide +kernel, by decide +kernel⟩, List.mem_of_getElem? (i := 756) (by decide +kernel), List.mem_of_getElem? (i := 922) (by decide +kernel), List.mem_of_getElem? (i := 923) (by decide +kernel)⟩
theorem lw_p35 : lw_okq (⟨"SlippedStreamsModel", "leave", "(II)V"⟩, 27) := ⟨⟨by decide +kernel, by decide +kernel⟩, List.mem_of_getElem? (i := 756) (by decide +kernel), List.mem_of_getElem? (i := 926) (by decide +kernel), List.mem_of_getElem? (i := 927) (by decide +kernel)⟩
theorem lw_p36 : lw_okq (⟨"SlippedStreamsModel", "store", "(I)Z"⟩, 27) := ⟨⟨by decide +kernel, by decide +kernel⟩, List.mem_of_getElem? (i := 756) (by decide +kernel), List.mem_of_getElem? (i := 930) (by decide +kernel), List.mem_of_getElem? (i := 931) (by decide +kernel)⟩
theorem lw_p37 : lw_okq (⟨"SlippedStreamsModel", "take", "(I)I"⟩, 27) := ⟨⟨by decide +kernel, by decide +kernel⟩, List.mem_of_getElem? (i := 756) (by decide +kernel), List.mem_of_getElem? (i := 934) (by decide +kernel), List.mem_of_getElem? (i := 935) (by decide +kernel)⟩
theorem lw_p38 : lw_okq (⟨"SlippedStreamsModel", "drain", "()V"⟩, 27) := ⟨⟨by decide +kernel, by decide +kernel⟩, List.mem_of_getElem? (i := 756) (by decide +kernel), List.mem_of_getElem? (i := 938) (by decide +kernel), List.mem_of_getElem? (i := 939) (by decide +kernel)⟩
theorem lw_p39 : lw_okq (⟨"SlippedStreamsModel", "follow", "(I)Z"⟩, 27) := ⟨⟨by decide +kernel, by decide +kernel⟩, List.mem_of_getElem? (i := 756) (by decide +kernel), List.mem_of_getElem? (i := 942) (by decide +kernel), List.mem_of_getElem? (i := 943) (by decide +kernel)⟩
theorem lw_p40 : lw_okq (⟨"SlippedStreamsModel", "hand", "(I)V"⟩, 27) := ⟨⟨by decide +kernel, by decide +kernel⟩, List.mem_of_getElem? (i := 756) (by decide +kernel), List.mem_of_getElem? (i := 946) (by decide +kernel), List.mem_of_getElem? (i := 947) (by decide +kernel)⟩
theorem lw_p41 : lw_okq (⟨"SlippedStreamsModel", "moveValue", "()Z"⟩, 27) := ⟨⟨by decide +kernel, by decide +kernel⟩, List.mem_of_getElem? (i := 756) (by decide +kernel), List.mem_of_getElem? (i := 960) (by decide +kernel), List.mem_of_getElem? (i := 961) (by decide +kernel)⟩
theorem lw_p42 : lw_okq (⟨"SlippedStreamsModel", "give", "(I)Z"⟩, 27) := ⟨⟨by decide +kernel, by decide +kernel⟩, List.mem_of_getElem? (i := 756) (by decide +kernel), List.mem_of_getElem? (i := 964) (by decide +kernel), List.mem_of_getElem? (i := 965) (by decide +kernel)⟩
theorem lw_p43 : lw_okq (⟨"SlippedStreamsModel", "work", "(I)Z"⟩, 27) := ⟨⟨by decide +kernel, by decide +kernel⟩, List.mem_of_getElem? (i := 756) (by decide +kernel), List.mem_of_getElem? (i := 968) (by decide +kernel), List.mem_of_getElem? (i := 969) (by decide +kernel)⟩
theorem lw_p44 : lw_okq (⟨"SlippedStreamsModel", "valueOf", "(II)I"⟩, 27) := ⟨⟨by decide +kernel, by decide +kernel⟩, List.mem_of_getElem? (i := 756) (by decide +kernel), List.mem_of_getElem? (i := 972) (by decide +kernel), List.mem_of_getElem? (i := 973) (by decide +kernel)⟩
theorem lw_p45 : lw_okq (⟨"SlippedStreamsModel", "write", "(III)V"⟩, 27) := ⟨⟨by decide +kernel, by decide +kernel⟩, List.mem_of_getElem? (i := 756) (by decide +kernel), List.mem_of_getElem? (i := 976) (by decide +kernel), List.mem_of_getElem? (i := 977) (by decide +kernel)⟩
theorem lw_p46 : lw_okq (⟨"SlippedStreamsModel", "plainStep", "()V"⟩, 27) := ⟨⟨by decide +kernel, by decide +kernel⟩, List.mem_of_getElem? (i := 756) (by decide +kernel), List.mem_of_getElem? (i := 988) (by decide +kernel), List.mem_of_getElem? (i := 989) (by decide +kernel)⟩
def lw_privs_3 : List (MethodName × Nat) := [(⟨"SlippedStreamsModel", "isInList", "(I)Z"⟩, 27), (⟨"SlippedStreamsModel", "hasRoom", "(II)Z"⟩, 27), (⟨"SlippedStreamsModel", "put", "(II)V"⟩, 27), (⟨"SlippedStreamsModel", "leave", "(II)V"⟩, 27), (⟨"SlippedStreamsModel", "store", "(I)Z"⟩, 27), (⟨"SlippedStreamsModel", "take", "(I)I"⟩, 27), (⟨"SlippedStreamsModel", "drain", "()V"⟩, 27), (⟨"SlippedStreamsModel", "follow", "(I)Z"⟩, 27), (⟨"SlippedStreamsModel", "hand", "(I)V"⟩, 27), (⟨"SlippedStreamsModel", "moveValue", "()Z"⟩, 27), (⟨"SlippedStreamsModel", "give", "(I)Z"⟩, 27), (⟨"SlippedStreamsModel", "work", "(I)Z"⟩, 27), (⟨"SlippedStreamsModel", "valueOf", "(II)I"⟩, 27), (⟨"SlippedStreamsModel", "write", "(III)V"⟩, 27), (⟨"SlippedStreamsModel", "plainStep", "()V"⟩, 27)]
theorem lw_r3 : ∀ q ∈ lw_privs_3, lw_okq q := List.forall_mem_cons.mpr ⟨lw_p32, List.forall_mem_cons.mpr ⟨lw_p33, List.forall_mem_cons.mpr ⟨lw_p34, List.forall_mem_cons.mpr ⟨lw_p35, List.forall_mem_cons.mpr ⟨lw_p36, List.forall_mem_cons.mpr ⟨lw_p37, List.forall_mem_cons.mpr ⟨lw_p38, List.forall_mem_cons.mpr ⟨lw_p39, List.forall_mem_cons.mpr ⟨lw_p40, List.forall_mem_cons.mpr ⟨lw_p41, List.forall_mem_cons.mpr ⟨lw_p42, List.forall_mem_cons.mpr ⟨lw_p43, List.forall_mem_cons.mpr ⟨lw_p44, List.forall_mem_cons.mpr ⟨lw_p45, List.forall_mem_cons.mpr ⟨lw_p46, fun _ h => absurd h List.not_mem_nil⟩⟩⟩⟩⟩⟩⟩⟩⟩⟩⟩⟩⟩⟩⟩
def lw_privs : List (MethodName × Nat) := lw_privs_1 ++ (lw_privs_2 ++ (lw_privs_3))
def lw_tbl : List Cond := k2_sels lw_privs ++ tables_1
theorem lw_privs_ok : ∀ q ∈ lw_privs, lw_okq q := by
  show ∀ q ∈ lw_privs_1 ++ (lw_privs_2 ++ (lw_privs_3)), lw_okq q
  exact List.forall_mem_append.mpr ⟨lw_r1, List.forall_mem_append.mpr ⟨lw_r2, lw_r3⟩⟩
end
section
def R_SlippedStreams : String := "SlippedStreams"
def R_AddressStream : String := "SlippedStreams$AddressStream"
def R_Fifo : String := "SlippedStreams$Fifo"
def R_Link : String := "SlippedStreams$Link"
def R_PlainRun : String := "SlippedStreams$PlainRun"
def R_Program : String := "SlippedStreams$Program"
def R_Run : String := "SlippedStreams$Run"
def R_StoreList : String := "SlippedStreams$StoreList"
def R_Stream : String := "SlippedStreams$Stream"
def R_ValueStream : String := "SlippedStreams$ValueStream"
def R_Written : String := "SlippedStreams$Written"
def R_SlippedStreamsModel : String := "SlippedStreamsModel"
def R_Integer : String := "java/lang/Integer"
def R_Math : String := "java/lang/Math"
def R_Object : String := "java/lang/Object"
def R_Arrays : String := "java/util/Arrays"
def F_SlippedStreams : u_T := fun k => match k with
  | 0 => ("SlippedStreams", "program", "LSlippedStreams$Program;", true)
  | 1 => ("SlippedStreams", "filled", "[I", true)
  | 2 => ("SlippedStreams", "link", "LSlippedStreams$Link;", true)
  | 3 => ("SlippedStreams", "addressStream", "LSlippedStreams$AddressStream;", true)
  | 4 => ("SlippedStreams", "valueStream", "LSlippedStreams$ValueStream;", true)
  | 5 => ("SlippedStreams", "plainRun", "LSlippedStreams$PlainRun;", true)
  | _ => ("SlippedStreams", "lost", "I", false)
def t_SlippedStreams : Nat → FieldType := fun k => match k with
  | 0 => .object "SlippedStreams$Program"
  | 1 => .array .int
  | 2 => .object "SlippedStreams$Link"
  | 3 => .object "SlippedStreams$AddressStream"
  | 4 => .object "SlippedStreams$ValueStream"
  | 5 => .object "SlippedStreams$PlainRun"
  | _ => .int
theorem n_SlippedStreams : ∀ a, a < 7 → ∀ b, b < 7 → a ≠ b → (F_SlippedStreams a).2.1 ≠ (F_SlippedStreams b).2.1 := by decide +kernel
theorem t_SlippedStreams_ok : ∀ k, k < 7 → parseFieldDescriptor (F_SlippedStreams k).2.2.1 = some (t_SlippedStreams k) := by decide +kernel
def F_Program : u_T := fun k => match k with
  | 0 => ("SlippedStreams$Program", "kinds", "[I", true)
  | 1 => ("SlippedStreams$Program", "as", "[I", true)
  | 2 => ("SlippedStreams$Program", "bs", "[I", true)
  | 3 => ("SlippedStreams$Program", "cs", "[I", true)
  | 4 => ("SlippedStreams$Program", "streams", "[I", true)
  | 5 => ("SlippedStreams$Program", "firstPassed", "[I", true)
  | 6 => ("SlippedStreams$Program", "secondPassed", "[I", true)
  | 7 => ("SlippedStreams$Program", "passedCounts", "[I", true)
  | 8 => ("SlippedStreams$Program", "nothingForAddresses", "[Z", true)
  | 9 => ("SlippedStreams$Program", "nothingForValues", "[Z", true)
  | 10 => ("SlippedStreams$Program", "size", "I", false)
  | _ => ("SlippedStreams$Program", "addressMask", "I", false)
def t_Program : Nat → FieldType := fun k => match k with
  | 0 => .array .int
  | 1 => .array .int
  | 2 => .array .int
  | 3 => .array .int
  | 4 => .array .int
  | 5 => .array .int
  | 6 => .array .int
  | 7 => .array .int
  | 8 => .array .boolean
  | 9 => .array .boolean
  | 10 => .int
  | _ => .int
theorem n_Program : ∀ a, a < 12 → ∀ b, b < 12 → a ≠ b → (F_Program a).2.1 ≠ (F_Program b).2.1 := by decide +kernel
theorem t_Program_ok : ∀ k, k < 12 → parseFieldDescriptor (F_Program k).2.2.1 = some (t_Program k) := by decide +kernel
def F_Link : u_T := fun k => match k with
  | 0 => ("SlippedStreams$Link", "memory", "[I", true)
  | 1 => ("SlippedStreams$Link", "loads", "LSlippedStreams$Fifo;", true)
  | 2 => ("SlippedStreams$Link", "stored", "LSlippedStreams$Fifo;", true)
  | 3 => ("SlippedStreams$Link", "valueOutcomes", "LSlippedStreams$Fifo;", true)
  | 4 => ("SlippedStreams$Link", "addressOutcomes", "LSlippedStreams$Fifo;", true)
  | 5 => ("SlippedStreams$Link", "passed", "LSlippedStreams$Fifo;", true)
  | _ => ("SlippedStreams$Link", "stores", "LSlippedStreams$StoreList;", true)
def t_Link : Nat → FieldType := fun k => match k with
  | 0 => .array .int
  | 1 => .object "SlippedStreams$Fifo"
  | 2 => .object "SlippedStreams$Fifo"
  | 3 => .object "SlippedStreams$Fifo"
  | 4 => .object "SlippedStreams$Fifo"
  | 5 => .object "SlippedStreams$Fifo"
  | _ => .object "SlippedStreams$StoreList"
theorem n_Link : ∀ a, a < 7 → ∀ b, b < 7 → a ≠ b → (F_Link a).2.1 ≠ (F_Link b).2.1 := by decide +kernel
theorem t_Link_ok : ∀ k, k < 7 → parseFieldDescriptor (F_Link k).2.2.1 = some (t_Link k) := by decide +kernel
def F_Fifo : u_T := fun k => match k with
  | 0 => ("SlippedStreams$Fifo", "things", "[I", true)
  | 1 => ("SlippedStreams$Fifo", "first", "I", false)
  | _ => ("SlippedStreams$Fifo", "size", "I", false)
def t_Fifo : Nat → FieldType := fun k => match k with
  | 0 => .array .int
  | 1 => .int
  | _ => .int
theorem n_Fifo : ∀ a, a < 3 → ∀ b, b < 3 → a ≠ b → (F_Fifo a).2.1 ≠ (F_Fifo b).2.1 := by decide +kernel
theorem t_Fifo_ok : ∀ k, k < 3 → parseFieldDescriptor (F_Fifo k).2.2.1 = some (t_Fifo k) := by decide +kernel
def F_StoreList : u_T := fun k => match k with
  | 0 => ("SlippedStreams$StoreList", "memory", "[I", true)
  | 1 => ("SlippedStreams$StoreList", "addresses", "[I", true)
  | 2 => ("SlippedStreams$StoreList", "values", "[I", true)
  | 3 => ("SlippedStreams$StoreList", "known", "[Z", true)
  | 4 => ("SlippedStreams$StoreList", "first", "I", false)
  | _ => ("SlippedStreams$StoreList", "size", "I", false)
def t_StoreList : Nat → FieldType := fun k => match k with
  | 0 => .array .int
  | 1 => .array .int
  | 2 => .array .int
  | 3 => .array .boolean
  | 4 => .int
  | _ => .int
theorem n_StoreList : ∀ a, a < 6 → ∀ b, b < 6 → a ≠ b → (F_StoreList a).2.1 ≠ (F_StoreList b).2.1 := by decide +kernel
theorem t_StoreList_ok : ∀ k, k < 6 → parseFieldDescriptor (F_StoreList k).2.2.1 = some (t_StoreList k) := by decide +kernel
def F_AddressStream : u_T := fun k => match k with
  | 0 => ("SlippedStreams$AddressStream", "handed", "Z", false)
  | 1 => ("SlippedStreams$Stream", "link", "LSlippedStreams$Link;", true)
  | 2 => ("SlippedStreams$Stream", "nothings", "[Z", true)
  | 3 => ("SlippedStreams$Stream", "left", "I", false)
  | 4 => ("SlippedStreams$Run", "program", "LSlippedStreams$Program;", true)
  | 5 => ("SlippedStreams$Run", "registers", "[I", true)
  | _ => ("SlippedStreams$Run", "at", "I", false)
def t_AddressStream : Nat → FieldType := fun k => match k with
  | 0 => .boolean
  | 1 => .object "SlippedStreams$Link"
  | 2 => .array .boolean
  | 3 => .int
  | 4 => .object "SlippedStreams$Program"
  | 5 => .array .int
  | _ => .int
theorem n_AddressStream : ∀ a, a < 7 → ∀ b, b < 7 → a ≠ b → (F_AddressStream a).2.1 ≠ (F_AddressStream b).2.1 := by decide +kernel
theorem t_AddressStream_ok : ∀ k, k < 7 → parseFieldDescriptor (F_AddressStream k).2.2.1 = some (t_AddressStream k) := by decide +kernel
def F_ValueStream : u_T := fun k => match k with
  | 0 => ("SlippedStreams$ValueStream", "written", "LSlippedStreams$Written;", true)
  | 1 => ("SlippedStreams$Stream", "link", "LSlippedStreams$Link;", true)
  | 2 => ("SlippedStreams$Stream", "nothings", "[Z", true)
  | 3 => ("SlippedStreams$Stream", "left", "I", false)
  | 4 => ("SlippedStreams$Run", "program", "LSlippedStreams$Program;", true)
  | 5 => ("SlippedStreams$Run", "registers", "[I", true)
  | _ => ("SlippedStreams$Run", "at", "I", false)
def t_ValueStream : Nat → FieldType := fun k => match k with
  | 0 => .object "SlippedStreams$Written"
  | 1 => .object "SlippedStreams$Link"
  | 2 => .array .boolean
  | 3 => .int
  | 4 => .object "SlippedStreams$Program"
  | 5 => .array .int
  | _ => .int
theorem n_ValueStream : ∀ a, a < 7 → ∀ b, b < 7 → a ≠ b → (F_ValueStream a).2.1 ≠ (F_ValueStream b).2.1 := by decide +kernel
theorem t_ValueStream_ok : ∀ k, k < 7 → parseFieldDescriptor (F_ValueStream k).2.2.1 = some (t_ValueStream k) := by decide +kernel
def F_Written : u_T := fun k => match k with
  | 0 => ("SlippedStreams$Written", "kept", "[I", true)
  | _ => ("SlippedStreams$Written", "count", "I", false)
def t_Written : Nat → FieldType := fun k => match k with
  | 0 => .array .int
  | _ => .int
theorem n_Written : ∀ a, a < 2 → ∀ b, b < 2 → a ≠ b → (F_Written a).2.1 ≠ (F_Written b).2.1 := by decide +kernel
theorem t_Written_ok : ∀ k, k < 2 → parseFieldDescriptor (F_Written k).2.2.1 = some (t_Written k) := by decide +kernel
def F_PlainRun : u_T := fun k => match k with
  | 0 => ("SlippedStreams$PlainRun", "memory", "[I", true)
  | 1 => ("SlippedStreams$PlainRun", "written", "LSlippedStreams$Written;", true)
  | 2 => ("SlippedStreams$Run", "program", "LSlippedStreams$Program;", true)
  | 3 => ("SlippedStreams$Run", "registers", "[I", true)
  | _ => ("SlippedStreams$Run", "at", "I", false)
def t_PlainRun : Nat → FieldType := fun k => match k with
  | 0 => .array .int
  | 1 => .object "SlippedStreams$Written"
  | 2 => .object "SlippedStreams$Program"
  | 3 => .array .int
  | _ => .int
theorem n_PlainRun : ∀ a, a < 5 → ∀ b, b < 5 → a ≠ b → (F_PlainRun a).2.1 ≠ (F_PlainRun b).2.1 := by decide +kernel
theorem t_PlainRun_ok : ∀ k, k < 5 → parseFieldDescriptor (F_PlainRun k).2.2.1 = some (t_PlainRun k) := by decide +kernel
def F_SlippedStreamsModel : u_T := fun k => match k with
  | 0 => ("SlippedStreamsModel", "count", "I", false)
  | 1 => ("SlippedStreamsModel", "kinds", "[I", true)
  | 2 => ("SlippedStreamsModel", "as", "[I", true)
  | 3 => ("SlippedStreamsModel", "bs", "[I", true)
  | 4 => ("SlippedStreamsModel", "cs", "[I", true)
  | 5 => ("SlippedStreamsModel", "first", "I", false)
  | 6 => ("SlippedStreamsModel", "step", "I", false)
  | 7 => ("SlippedStreamsModel", "isAddress", "[Z", true)
  | 8 => ("SlippedStreamsModel", "registers", "[I", true)
  | 9 => ("SlippedStreamsModel", "places", "[I", true)
  | 10 => ("SlippedStreamsModel", "behind", "[I", true)
  | 11 => ("SlippedStreamsModel", "sent", "Z", false)
  | 12 => ("SlippedStreamsModel", "memory", "[I", true)
  | 13 => ("SlippedStreamsModel", "lost", "I", false)
  | 14 => ("SlippedStreamsModel", "starved", "Z", false)
  | 15 => ("SlippedStreamsModel", "queues", "[I", true)
  | 16 => ("SlippedStreamsModel", "lengths", "[I", true)
  | 17 => ("SlippedStreamsModel", "stores", "I", false)
  | 18 => ("SlippedStreamsModel", "storeAt", "[I", true)
  | 19 => ("SlippedStreamsModel", "storeWord", "[I", true)
  | 20 => ("SlippedStreamsModel", "storeThere", "[Z", true)
  | 21 => ("SlippedStreamsModel", "plainRegisters", "[I", true)
  | 22 => ("SlippedStreamsModel", "plainMemory", "[I", true)
  | 23 => ("SlippedStreamsModel", "plainPlace", "I", false)
  | 24 => ("SlippedStreamsModel", "written", "[I", true)
  | 25 => ("SlippedStreamsModel", "streamOutputs", "I", false)
  | _ => ("SlippedStreamsModel", "plainOutputs", "I", false)
def t_SlippedStreamsModel : Nat → FieldType := fun k => match k with
  | 0 => .int
  | 1 => .array .int
  | 2 => .array .int
  | 3 => .array .int
  | 4 => .array .int
  | 5 => .int
  | 6 => .int
  | 7 => .array .boolean
  | 8 => .array .int
  | 9 => .array .int
  | 10 => .array .int
  | 11 => .boolean
  | 12 => .array .int
  | 13 => .int
  | 14 => .boolean
  | 15 => .array .int
  | 16 => .array .int
  | 17 => .int
  | 18 => .array .int
  | 19 => .array .int
  | 20 => .array .boolean
  | 21 => .array .int
  | 22 => .array .int
  | 23 => .int
  | 24 => .array .int
  | 25 => .int
  | _ => .int
theorem n_SlippedStreamsModel : ∀ a, a < 27 → ∀ b, b < 27 → a ≠ b → (F_SlippedStreamsModel a).2.1 ≠ (F_SlippedStreamsModel b).2.1 := by decide +kernel
theorem t_SlippedStreamsModel_ok : ∀ k, k < 27 → parseFieldDescriptor (F_SlippedStreamsModel k).2.2.1 = some (t_SlippedStreamsModel k) := by decide +kernel
abbrev q_cl : List vw_C := [(R_SlippedStreams, F_SlippedStreams, 7), (R_Program, F_Program, 12), (R_Link, F_Link, 7), (R_Fifo, F_Fifo, 3), (R_StoreList, F_StoreList, 6), (R_AddressStream, F_AddressStream, 7), (R_ValueStream, F_ValueStream, 7), (R_Written, F_Written, 2), (R_PlainRun, F_PlainRun, 5), (R_SlippedStreamsModel, F_SlippedStreamsModel, 27)]
abbrev b_SlippedStreams_init : ByteArray := prog_1_method_1_code
def y_SlippedStreams_init : MethodName := ⟨"SlippedStreams", "<init>", "()V"⟩
abbrev b_SlippedStreams_add : ByteArray := prog_1_method_2_code
def y_SlippedStreams_add : MethodName := ⟨"SlippedStreams", "add", "(IIII)I"⟩
abbrev b_SlippedStreams_fill : ByteArray := prog_1_method_3_code
def y_SlippedStreams_fill : MethodName := ⟨"SlippedStreams", "fill", "(II)V"⟩
abbrev b_SlippedStreams_clear : ByteArray := prog_1_method_4_code
def y_SlippedStreams_clear : MethodName := ⟨"SlippedStreams", "clear", "()I"⟩
abbrev b_SlippedStreams_reset : ByteArray := prog_1_method_5_code
def y_SlippedStreams_reset : MethodName := ⟨"SlippedStreams", "reset", "()V"⟩
abbrev b_SlippedStreams_streamOf : ByteArray := prog_1_method_6_code
def y_SlippedStreams_streamOf : MethodName := ⟨"SlippedStreams", "streamOf", "(I)I"⟩
abbrev b_SlippedStreams_addressRegisters : ByteArray := prog_1_method_7_code
def y_SlippedStreams_addressRegisters : MethodName := ⟨"SlippedStreams", "addressRegisters", "()I"⟩
abbrev b_SlippedStreams_address : ByteArray := prog_1_method_8_code
def y_SlippedStreams_address : MethodName := ⟨"SlippedStreams", "address", "(I)I"⟩
abbrev b_SlippedStreams_value : ByteArray := prog_1_method_9_code
def y_SlippedStreams_value : MethodName := ⟨"SlippedStreams", "value", "(I)I"⟩
abbrev b_SlippedStreams_both : ByteArray := prog_1_method_10_code
def y_SlippedStreams_both : MethodName := ⟨"SlippedStreams", "both", "(I)I"⟩
abbrev b_SlippedStreams_place : ByteArray := prog_1_method_11_code
def y_SlippedStreams_place : MethodName := ⟨"SlippedStreams", "place", "(I)I"⟩
abbrev b_SlippedStreams_slip : ByteArray := prog_1_method_12_code
def y_SlippedStreams_slip : MethodName := ⟨"SlippedStreams", "slip", "()I"⟩
abbrev b_SlippedStreams_queue : ByteArray := prog_1_method_13_code
def y_SlippedStreams_queue : MethodName := ⟨"SlippedStreams", "queue", "(I)I"⟩
abbrev b_SlippedStreams_register : ByteArray := prog_1_method_14_code
def y_SlippedStreams_register : MethodName := ⟨"SlippedStreams", "register", "(IZ)I"⟩
abbrev b_SlippedStreams_peek : ByteArray := prog_1_method_15_code
def y_SlippedStreams_peek : MethodName := ⟨"SlippedStreams", "peek", "(IZ)I"⟩
abbrev b_SlippedStreams_losses : ByteArray := prog_1_method_16_code
def y_SlippedStreams_losses : MethodName := ⟨"SlippedStreams", "losses", "()I"⟩
abbrev b_SlippedStreams_plain : ByteArray := prog_1_method_17_code
def y_SlippedStreams_plain : MethodName := ⟨"SlippedStreams", "plain", "(I)I"⟩
abbrev b_SlippedStreams_outputs : ByteArray := prog_1_method_18_code
def y_SlippedStreams_outputs : MethodName := ⟨"SlippedStreams", "outputs", "(Z)I"⟩
abbrev b_SlippedStreams_output : ByteArray := prog_1_method_19_code
def y_SlippedStreams_output : MethodName := ⟨"SlippedStreams", "output", "(IZ)I"⟩
abbrev b_SlippedStreams_beginAnew : ByteArray := prog_1_method_20_code
def y_SlippedStreams_beginAnew : MethodName := ⟨"SlippedStreams", "beginAnew", "()V"⟩
abbrev b_SlippedStreams_noteLoss : ByteArray := prog_1_method_21_code
def y_SlippedStreams_noteLoss : MethodName := ⟨"SlippedStreams", "noteLoss", "()V"⟩
abbrev b_SlippedStreams_isMoveCount : ByteArray := prog_1_method_22_code
def y_SlippedStreams_isMoveCount : MethodName := ⟨"SlippedStreams", "isMoveCount", "(I)Z"⟩
abbrev b_SlippedStreams_isRegister : ByteArray := prog_1_method_23_code
def y_SlippedStreams_isRegister : MethodName := ⟨"SlippedStreams", "isRegister", "(I)Z"⟩
abbrev b_SlippedStreamsModel_init : ByteArray := prog_13_method_1_code
def y_SlippedStreamsModel_init : MethodName := ⟨"SlippedStreamsModel", "<init>", "()V"⟩
abbrev b_SlippedStreamsModel_isRegister : ByteArray := prog_13_method_2_code
def y_SlippedStreamsModel_isRegister : MethodName := ⟨"SlippedStreamsModel", "isRegister", "(I)Z"⟩
abbrev b_SlippedStreamsModel_add : ByteArray := prog_13_method_3_code
def y_SlippedStreamsModel_add : MethodName := ⟨"SlippedStreamsModel", "add", "(IIII)I"⟩
abbrev b_SlippedStreamsModel_fill : ByteArray := prog_13_method_4_code
def y_SlippedStreamsModel_fill : MethodName := ⟨"SlippedStreamsModel", "fill", "(II)V"⟩
abbrev b_SlippedStreamsModel_clear : ByteArray := prog_13_method_5_code
def y_SlippedStreamsModel_clear : MethodName := ⟨"SlippedStreamsModel", "clear", "()I"⟩
abbrev b_SlippedStreamsModel_reset : ByteArray := prog_13_method_6_code
def y_SlippedStreamsModel_reset : MethodName := ⟨"SlippedStreamsModel", "reset", "()V"⟩
abbrev b_SlippedStreamsModel_reckons : ByteArray := prog_13_method_7_code
def y_SlippedStreamsModel_reckons : MethodName := ⟨"SlippedStreamsModel", "reckons", "(I)Z"⟩
abbrev b_SlippedStreamsModel_slice : ByteArray := prog_13_method_8_code
def y_SlippedStreamsModel_slice : MethodName := ⟨"SlippedStreamsModel", "slice", "()V"⟩
abbrev b_SlippedStreamsModel_belongs : ByteArray := prog_13_method_9_code
def y_SlippedStreamsModel_belongs : MethodName := ⟨"SlippedStreamsModel", "belongs", "(I)I"⟩
abbrev b_SlippedStreamsModel_reads : ByteArray := prog_13_method_10_code
def y_SlippedStreamsModel_reads : MethodName := ⟨"SlippedStreamsModel", "reads", "(II)I"⟩
abbrev b_SlippedStreamsModel_handed : ByteArray := prog_13_method_11_code
def y_SlippedStreamsModel_handed : MethodName := ⟨"SlippedStreamsModel", "handed", "(II)I"⟩
abbrev b_SlippedStreamsModel_howMany : ByteArray := prog_13_method_12_code
def y_SlippedStreamsModel_howMany : MethodName := ⟨"SlippedStreamsModel", "howMany", "(I)I"⟩
abbrev b_SlippedStreamsModel_isBranch : ByteArray := prog_13_method_13_code
def y_SlippedStreamsModel_isBranch : MethodName := ⟨"SlippedStreamsModel", "isBranch", "(I)Z"⟩
abbrev b_SlippedStreamsModel_isNothing : ByteArray := prog_13_method_14_code
def y_SlippedStreamsModel_isNothing : MethodName := ⟨"SlippedStreamsModel", "isNothing", "(II)Z"⟩
abbrev b_SlippedStreamsModel_goOver : ByteArray := prog_13_method_15_code
def y_SlippedStreamsModel_goOver : MethodName := ⟨"SlippedStreamsModel", "goOver", "(I)V"⟩
abbrev b_SlippedStreamsModel_leave : ByteArray := prog_13_method_16_code
def y_SlippedStreamsModel_leave : MethodName := ⟨"SlippedStreamsModel", "leave", "(II)V"⟩
abbrev b_SlippedStreamsModel_hasRoom : ByteArray := prog_13_method_17_code
def y_SlippedStreamsModel_hasRoom : MethodName := ⟨"SlippedStreamsModel", "hasRoom", "(II)Z"⟩
abbrev b_SlippedStreamsModel_put : ByteArray := prog_13_method_18_code
def y_SlippedStreamsModel_put : MethodName := ⟨"SlippedStreamsModel", "put", "(II)V"⟩
abbrev b_SlippedStreamsModel_take : ByteArray := prog_13_method_19_code
def y_SlippedStreamsModel_take : MethodName := ⟨"SlippedStreamsModel", "take", "(I)I"⟩
abbrev b_SlippedStreamsModel_drain : ByteArray := prog_13_method_20_code
def y_SlippedStreamsModel_drain : MethodName := ⟨"SlippedStreamsModel", "drain", "()V"⟩
abbrev b_SlippedStreamsModel_isInList : ByteArray := prog_13_method_21_code
def y_SlippedStreamsModel_isInList : MethodName := ⟨"SlippedStreamsModel", "isInList", "(I)Z"⟩
abbrev b_SlippedStreamsModel_reckon : ByteArray := prog_13_method_22_code
def y_SlippedStreamsModel_reckon : MethodName := ⟨"SlippedStreamsModel", "reckon", "(III)I"⟩
abbrev b_SlippedStreamsModel_holds : ByteArray := prog_13_method_23_code
def y_SlippedStreamsModel_holds : MethodName := ⟨"SlippedStreamsModel", "holds", "(III)Z"⟩
abbrev b_SlippedStreamsModel_hand : ByteArray := prog_13_method_24_code
def y_SlippedStreamsModel_hand : MethodName := ⟨"SlippedStreamsModel", "hand", "(I)V"⟩
abbrev b_SlippedStreamsModel_load : ByteArray := prog_13_method_25_code
def y_SlippedStreamsModel_load : MethodName := ⟨"SlippedStreamsModel", "load", "(I)Z"⟩
abbrev b_SlippedStreamsModel_store : ByteArray := prog_13_method_26_code
def y_SlippedStreamsModel_store : MethodName := ⟨"SlippedStreamsModel", "store", "(I)Z"⟩
abbrev b_SlippedStreamsModel_follow : ByteArray := prog_13_method_27_code
def y_SlippedStreamsModel_follow : MethodName := ⟨"SlippedStreamsModel", "follow", "(I)Z"⟩
abbrev b_SlippedStreamsModel_moveAddress : ByteArray := prog_13_method_28_code
def y_SlippedStreamsModel_moveAddress : MethodName := ⟨"SlippedStreamsModel", "moveAddress", "()Z"⟩
abbrev b_SlippedStreamsModel_valueOf : ByteArray := prog_13_method_29_code
def y_SlippedStreamsModel_valueOf : MethodName := ⟨"SlippedStreamsModel", "valueOf", "(II)I"⟩
abbrev b_SlippedStreamsModel_give : ByteArray := prog_13_method_30_code
def y_SlippedStreamsModel_give : MethodName := ⟨"SlippedStreamsModel", "give", "(I)Z"⟩
abbrev b_SlippedStreamsModel_write : ByteArray := prog_13_method_31_code
def y_SlippedStreamsModel_write : MethodName := ⟨"SlippedStreamsModel", "write", "(III)V"⟩
abbrev b_SlippedStreamsModel_work : ByteArray := prog_13_method_32_code
def y_SlippedStreamsModel_work : MethodName := ⟨"SlippedStreamsModel", "work", "(I)Z"⟩
abbrev b_SlippedStreamsModel_moveValue : ByteArray := prog_13_method_33_code
def y_SlippedStreamsModel_moveValue : MethodName := ⟨"SlippedStreamsModel", "moveValue", "()Z"⟩
abbrev b_SlippedStreamsModel_isCount : ByteArray := prog_13_method_34_code
def y_SlippedStreamsModel_isCount : MethodName := ⟨"SlippedStreamsModel", "isCount", "(I)Z"⟩
abbrev b_SlippedStreamsModel_address : ByteArray := prog_13_method_35_code
def y_SlippedStreamsModel_address : MethodName := ⟨"SlippedStreamsModel", "address", "(I)I"⟩
abbrev b_SlippedStreamsModel_value : ByteArray := prog_13_method_36_code
def y_SlippedStreamsModel_value : MethodName := ⟨"SlippedStreamsModel", "value", "(I)I"⟩
abbrev b_SlippedStreamsModel_both : ByteArray := prog_13_method_37_code
def y_SlippedStreamsModel_both : MethodName := ⟨"SlippedStreamsModel", "both", "(I)I"⟩
abbrev b_SlippedStreamsModel_plainStep : ByteArray := prog_13_method_38_code
def y_SlippedStreamsModel_plainStep : MethodName := ⟨"SlippedStreamsModel", "plainStep", "()V"⟩
abbrev b_SlippedStreamsModel_plain : ByteArray := prog_13_method_39_code
def y_SlippedStreamsModel_plain : MethodName := ⟨"SlippedStreamsModel", "plain", "(I)I"⟩
abbrev b_SlippedStreamsModel_streamOf : ByteArray := prog_13_method_40_code
def y_SlippedStreamsModel_streamOf : MethodName := ⟨"SlippedStreamsModel", "streamOf", "(I)I"⟩
abbrev b_SlippedStreamsModel_addressRegisters : ByteArray := prog_13_method_41_code
def y_SlippedStreamsModel_addressRegisters : MethodName := ⟨"SlippedStreamsModel", "addressRegisters", "()I"⟩
abbrev b_SlippedStreamsModel_place : ByteArray := prog_13_method_42_code
def y_SlippedStreamsModel_place : MethodName := ⟨"SlippedStreamsModel", "place", "(I)I"⟩
abbrev b_SlippedStreamsModel_slip : ByteArray := prog_13_method_43_code
def y_SlippedStreamsModel_slip : MethodName := ⟨"SlippedStreamsModel", "slip", "()I"⟩
abbrev b_SlippedStreamsModel_queue : ByteArray := prog_13_method_44_code
def y_SlippedStreamsModel_queue : MethodName := ⟨"SlippedStreamsModel", "queue", "(I)I"⟩
abbrev b_SlippedStreamsModel_register : ByteArray := prog_13_method_45_code
def y_SlippedStreamsModel_register : MethodName := ⟨"SlippedStreamsModel", "register", "(IZ)I"⟩
abbrev b_SlippedStreamsModel_peek : ByteArray := prog_13_method_46_code
def y_SlippedStreamsModel_peek : MethodName := ⟨"SlippedStreamsModel", "peek", "(IZ)I"⟩
abbrev b_SlippedStreamsModel_losses : ByteArray := prog_13_method_47_code
def y_SlippedStreamsModel_losses : MethodName := ⟨"SlippedStreamsModel", "losses", "()I"⟩
abbrev b_SlippedStreamsModel_outputs : ByteArray := prog_13_method_48_code
def y_SlippedStreamsModel_outputs : MethodName := ⟨"SlippedStreamsModel", "outputs", "(Z)I"⟩
abbrev b_SlippedStreamsModel_output : ByteArray := prog_13_method_49_code
def y_SlippedStreamsModel_output : MethodName := ⟨"SlippedStreamsModel", "output", "(IZ)I"⟩
abbrev b_AddressStream_init : ByteArray := prog_2_method_1_code
def y_AddressStream_init : MethodName := ⟨"SlippedStreams$AddressStream", "<init>", "(LSlippedStreams$Program;LSlippedStreams$Link;)V"⟩
abbrev b_AddressStream_begin : ByteArray := prog_2_method_2_code
def y_AddressStream_begin : MethodName := ⟨"SlippedStreams$AddressStream", "begin", "()V"⟩
abbrev b_AddressStream_step : ByteArray := prog_2_method_3_code
def y_AddressStream_step : MethodName := ⟨"SlippedStreams$AddressStream", "step", "()Z"⟩
abbrev b_AddressStream_isAtOutcome : ByteArray := prog_2_method_4_code
def y_AddressStream_isAtOutcome : MethodName := ⟨"SlippedStreams$AddressStream", "isAtOutcome", "()Z"⟩
abbrev b_AddressStream_doOwn : ByteArray := prog_2_method_5_code
def y_AddressStream_doOwn : MethodName := ⟨"SlippedStreams$AddressStream", "doOwn", "(I)Z"⟩
abbrev b_AddressStream_load : ByteArray := prog_2_method_6_code
def y_AddressStream_load : MethodName := ⟨"SlippedStreams$AddressStream", "load", "(I)Z"⟩
abbrev b_AddressStream_store : ByteArray := prog_2_method_7_code
def y_AddressStream_store : MethodName := ⟨"SlippedStreams$AddressStream", "store", "(I)Z"⟩
abbrev b_AddressStream_serve : ByteArray := prog_2_method_8_code
def y_AddressStream_serve : MethodName := ⟨"SlippedStreams$AddressStream", "serve", "(I)Z"⟩
abbrev b_AddressStream_sendLoad : ByteArray := prog_2_method_9_code
def y_AddressStream_sendLoad : MethodName := ⟨"SlippedStreams$AddressStream", "sendLoad", "(I)Z"⟩
abbrev b_AddressStream_hand : ByteArray := prog_2_method_10_code
def y_AddressStream_hand : MethodName := ⟨"SlippedStreams$AddressStream", "hand", "(I)V"⟩
abbrev b_Fifo_init : ByteArray := prog_3_method_1_code
def y_Fifo_init : MethodName := ⟨"SlippedStreams$Fifo", "<init>", "(I)V"⟩
abbrev b_Fifo_empty : ByteArray := prog_3_method_2_code
def y_Fifo_empty : MethodName := ⟨"SlippedStreams$Fifo", "empty", "()V"⟩
abbrev b_Fifo_hasRoomFor : ByteArray := prog_3_method_3_code
def y_Fifo_hasRoomFor : MethodName := ⟨"SlippedStreams$Fifo", "hasRoomFor", "(I)Z"⟩
abbrev b_Fifo_put : ByteArray := prog_3_method_4_code
def y_Fifo_put : MethodName := ⟨"SlippedStreams$Fifo", "put", "(I)V"⟩
abbrev b_Fifo_take : ByteArray := prog_3_method_5_code
def y_Fifo_take : MethodName := ⟨"SlippedStreams$Fifo", "take", "()I"⟩
abbrev b_Link_init : ByteArray := prog_4_method_1_code
def y_Link_init : MethodName := ⟨"SlippedStreams$Link", "<init>", "()V"⟩
abbrev b_Link_begin : ByteArray := prog_4_method_2_code
def y_Link_begin : MethodName := ⟨"SlippedStreams$Link", "begin", "([I)V"⟩
abbrev b_PlainRun_init : ByteArray := prog_5_method_1_code
def y_PlainRun_init : MethodName := ⟨"SlippedStreams$PlainRun", "<init>", "(LSlippedStreams$Program;)V"⟩
abbrev b_PlainRun_begin : ByteArray := prog_5_method_2_code
def y_PlainRun_begin : MethodName := ⟨"SlippedStreams$PlainRun", "begin", "([I)V"⟩
abbrev b_PlainRun_step : ByteArray := prog_5_method_3_code
def y_PlainRun_step : MethodName := ⟨"SlippedStreams$PlainRun", "step", "()Z"⟩
abbrev b_PlainRun_perform : ByteArray := prog_5_method_4_code
def y_PlainRun_perform : MethodName := ⟨"SlippedStreams$PlainRun", "perform", "(I)V"⟩
abbrev b_Program_init : ByteArray := prog_6_method_1_code
def y_Program_init : MethodName := ⟨"SlippedStreams$Program", "<init>", "()V"⟩
abbrev b_Program_isSound : ByteArray := prog_6_method_2_code
def y_Program_isSound : MethodName := ⟨"SlippedStreams$Program", "isSound", "(IIII)Z"⟩
abbrev b_Program_append : ByteArray := prog_6_method_3_code
def y_Program_append : MethodName := ⟨"SlippedStreams$Program", "append", "(IIII)I"⟩
abbrev b_Program_removeAll : ByteArray := prog_6_method_4_code
def y_Program_removeAll : MethodName := ⟨"SlippedStreams$Program", "removeAll", "()V"⟩
abbrev b_Program_isAddressRegister : ByteArray := prog_6_method_5_code
def y_Program_isAddressRegister : MethodName := ⟨"SlippedStreams$Program", "isAddressRegister", "(I)Z"⟩
abbrev b_Program_isArithmetic : ByteArray := prog_6_method_6_code
def y_Program_isArithmetic : MethodName := ⟨"SlippedStreams$Program", "isArithmetic", "(I)Z"⟩
abbrev b_Program_isBranch : ByteArray := prog_6_method_7_code
def y_Program_isBranch : MethodName := ⟨"SlippedStreams$Program", "isBranch", "(I)Z"⟩
abbrev b_Program_slice : ByteArray := prog_6_method_8_code
def y_Program_slice : MethodName := ⟨"SlippedStreams$Program", "slice", "()V"⟩
abbrev b_Program_findAddressRegisters : ByteArray := prog_6_method_9_code
def y_Program_findAddressRegisters : MethodName := ⟨"SlippedStreams$Program", "findAddressRegisters", "()V"⟩
abbrev b_Program_belongsToAddresses : ByteArray := prog_6_method_10_code
def y_Program_belongsToAddresses : MethodName := ⟨"SlippedStreams$Program", "belongsToAddresses", "(I)Z"⟩
abbrev b_Program_findPassed : ByteArray := prog_6_method_11_code
def y_Program_findPassed : MethodName := ⟨"SlippedStreams$Program", "findPassed", "(I)V"⟩
abbrev b_Program_findNothings : ByteArray := prog_6_method_12_code
def y_Program_findNothings : MethodName := ⟨"SlippedStreams$Program", "findNothings", "(I)V"⟩
abbrev b_Program_firstRead : ByteArray := prog_6_method_13_code
def y_Program_firstRead : MethodName := ⟨"SlippedStreams$Program", "firstRead", "(I)I"⟩
abbrev b_Program_secondRead : ByteArray := prog_6_method_14_code
def y_Program_secondRead : MethodName := ⟨"SlippedStreams$Program", "secondRead", "(I)I"⟩
abbrev b_Run_init : ByteArray := prog_7_method_1_code
def y_Run_init : MethodName := ⟨"SlippedStreams$Run", "<init>", "(LSlippedStreams$Program;)V"⟩
abbrev b_Run_advance : ByteArray := prog_7_method_3_code
def y_Run_advance : MethodName := ⟨"SlippedStreams$Run", "advance", "(I)I"⟩
abbrev b_Run_hasEnded : ByteArray := prog_7_method_4_code
def y_Run_hasEnded : MethodName := ⟨"SlippedStreams$Run", "hasEnded", "()Z"⟩
abbrev b_Run_position : ByteArray := prog_7_method_5_code
def y_Run_position : MethodName := ⟨"SlippedStreams$Run", "position", "()I"⟩
abbrev b_Run_wordAddress : ByteArray := prog_7_method_6_code
def y_Run_wordAddress : MethodName := ⟨"SlippedStreams$Run", "wordAddress", "(I)I"⟩
abbrev b_Run_behind : ByteArray := prog_7_method_7_code
def y_Run_behind : MethodName := ⟨"SlippedStreams$Run", "behind", "(IZ)I"⟩
abbrev b_Run_test : ByteArray := prog_7_method_8_code
def y_Run_test : MethodName := ⟨"SlippedStreams$Run", "test", "(I)Z"⟩
abbrev b_Run_compute : ByteArray := prog_7_method_9_code
def y_Run_compute : MethodName := ⟨"SlippedStreams$Run", "compute", "(I)V"⟩
abbrev b_Run_combined : ByteArray := prog_7_method_10_code
def y_Run_combined : MethodName := ⟨"SlippedStreams$Run", "combined", "(I)I"⟩
abbrev b_StoreList_init : ByteArray := prog_8_method_1_code
def y_StoreList_init : MethodName := ⟨"SlippedStreams$StoreList", "<init>", "([I)V"⟩
abbrev b_StoreList_empty : ByteArray := prog_8_method_2_code
def y_StoreList_empty : MethodName := ⟨"SlippedStreams$StoreList", "empty", "()V"⟩
abbrev b_StoreList_isFull : ByteArray := prog_8_method_3_code
def y_StoreList_isFull : MethodName := ⟨"SlippedStreams$StoreList", "isFull", "()Z"⟩
abbrev b_StoreList_holds : ByteArray := prog_8_method_4_code
def y_StoreList_holds : MethodName := ⟨"SlippedStreams$StoreList", "holds", "(I)Z"⟩
abbrev b_StoreList_enter : ByteArray := prog_8_method_5_code
def y_StoreList_enter : MethodName := ⟨"SlippedStreams$StoreList", "enter", "(I)V"⟩
abbrev b_StoreList_enterWith : ByteArray := prog_8_method_6_code
def y_StoreList_enterWith : MethodName := ⟨"SlippedStreams$StoreList", "enterWith", "(II)V"⟩
abbrev b_StoreList_give : ByteArray := prog_8_method_7_code
def y_StoreList_give : MethodName := ⟨"SlippedStreams$StoreList", "give", "(I)Z"⟩
abbrev b_StoreList_know : ByteArray := prog_8_method_8_code
def y_StoreList_know : MethodName := ⟨"SlippedStreams$StoreList", "know", "(II)V"⟩
abbrev b_StoreList_slot : ByteArray := prog_8_method_9_code
def y_StoreList_slot : MethodName := ⟨"SlippedStreams$StoreList", "slot", "(I)I"⟩
abbrev b_Stream_init : ByteArray := prog_9_method_1_code
def y_Stream_init : MethodName := ⟨"SlippedStreams$Stream", "<init>", "(LSlippedStreams$Program;LSlippedStreams$Link;[Z)V"⟩
abbrev b_Stream_begin : ByteArray := prog_9_method_2_code
def y_Stream_begin : MethodName := ⟨"SlippedStreams$Stream", "begin", "()V"⟩
abbrev b_Stream_leaveFor : ByteArray := prog_9_method_3_code
def y_Stream_leaveFor : MethodName := ⟨"SlippedStreams$Stream", "leaveFor", "(I)Z"⟩
abbrev b_Stream_sendOutcome : ByteArray := prog_9_method_4_code
def y_Stream_sendOutcome : MethodName := ⟨"SlippedStreams$Stream", "sendOutcome", "(ILSlippedStreams$Fifo;)Z"⟩
abbrev b_Stream_followOutcome : ByteArray := prog_9_method_5_code
def y_Stream_followOutcome : MethodName := ⟨"SlippedStreams$Stream", "followOutcome", "(ILSlippedStreams$Fifo;)Z"⟩
abbrev b_Stream_goOver : ByteArray := prog_9_method_6_code
def y_Stream_goOver : MethodName := ⟨"SlippedStreams$Stream", "goOver", "()V"⟩
abbrev b_ValueStream_init : ByteArray := prog_10_method_1_code
def y_ValueStream_init : MethodName := ⟨"SlippedStreams$ValueStream", "<init>", "(LSlippedStreams$Program;LSlippedStreams$Link;)V"⟩
abbrev b_ValueStream_begin : ByteArray := prog_10_method_2_code
def y_ValueStream_begin : MethodName := ⟨"SlippedStreams$ValueStream", "begin", "()V"⟩
abbrev b_ValueStream_step : ByteArray := prog_10_method_3_code
def y_ValueStream_step : MethodName := ⟨"SlippedStreams$ValueStream", "step", "()Z"⟩
abbrev b_ValueStream_receiveLoad : ByteArray := prog_10_method_4_code
def y_ValueStream_receiveLoad : MethodName := ⟨"SlippedStreams$ValueStream", "receiveLoad", "(I)Z"⟩
abbrev b_ValueStream_doOwn : ByteArray := prog_10_method_5_code
def y_ValueStream_doOwn : MethodName := ⟨"SlippedStreams$ValueStream", "doOwn", "(I)Z"⟩
abbrev b_ValueStream_receive : ByteArray := prog_10_method_6_code
def y_ValueStream_receive : MethodName := ⟨"SlippedStreams$ValueStream", "receive", "(I)V"⟩
abbrev b_ValueStream_giveStored : ByteArray := prog_10_method_7_code
def y_ValueStream_giveStored : MethodName := ⟨"SlippedStreams$ValueStream", "giveStored", "(I)Z"⟩
abbrev b_Written_init : ByteArray := prog_11_method_1_code
def y_Written_init : MethodName := ⟨"SlippedStreams$Written", "<init>", "()V"⟩
abbrev b_Written_empty : ByteArray := prog_11_method_2_code
def y_Written_empty : MethodName := ⟨"SlippedStreams$Written", "empty", "()V"⟩
abbrev b_Written_write : ByteArray := prog_11_method_3_code
def y_Written_write : MethodName := ⟨"SlippedStreams$Written", "write", "(I)V"⟩
abbrev b_Written_thing : ByteArray := prog_11_method_4_code
def y_Written_thing : MethodName := ⟨"SlippedStreams$Written", "thing", "(I)I"⟩
abbrev b_Object_init : ByteArray := object_method_1_code
def y_Object_init : MethodName := ⟨"java/lang/Object", "<init>", "()V"⟩
abbrev b_Integer_bitCount : ByteArray := prog_14_method_49_code
def y_Integer_bitCount : MethodName := ⟨"java/lang/Integer", "bitCount", "(I)I"⟩
abbrev b_Math_min : ByteArray := prog_15_method_69_code
def y_Math_min : MethodName := ⟨"java/lang/Math", "min", "(II)I"⟩
abbrev b_Arrays_fill : ByteArray := prog_17_method_103_code
def y_Arrays_fill : MethodName := ⟨"java/util/Arrays", "fill", "([II)V"⟩
end
section
def q_xs : List Cond := [.selects "SlippedStreams$AddressStream" ⟨"SlippedStreams$Stream", "goOver", "()V"⟩ ⟨"SlippedStreams$Stream", "goOver", "()V"⟩, .selects "SlippedStreams$ValueStream" ⟨"SlippedStreams$Stream", "goOver", "()V"⟩ ⟨"SlippedStreams$Stream", "goOver", "()V"⟩, .selects "SlippedStreams$AddressStream" ⟨"SlippedStreams$Run", "combined", "(I)I"⟩ ⟨"SlippedStreams$Run", "combined", "(I)I"⟩, .selects "SlippedStreams$ValueStream" ⟨"SlippedStreams$Run", "combined", "(I)I"⟩ ⟨"SlippedStreams$Run", "combined", "(I)I"⟩, .selects "SlippedStreams$PlainRun" ⟨"SlippedStreams$Run", "combined", "(I)I"⟩ ⟨"SlippedStreams$Run", "combined", "(I)I"⟩]
def q_raw : List Cond := q_xs ++ lw_tbl
def q_big : List Cond := q_raw.filter goodWord
theorem q_mem {w : Cond} (i : Nat) (h : q_raw[i]? = some w) (g : goodWord w = true) : w ∈ q_big := List.mem_filter.mpr ⟨List.mem_of_getElem? h, g⟩
theorem q_gd {w : Cond} (h : w ∈ q_big) : w ∈ q_big ∧ ((w.onTables && w.keeps) = true ∨ ∃ ty, w = .arrayClass ty) := ⟨h, good_of_word (List.mem_filter.mp h).2⟩
theorem q_good {b : Cond} (hb : b ∈ q_big) : GoodIn q_big (b :: q_big) := by
  intro w hw
  rcases List.mem_cons.mp hw with rfl | h
  · exact q_gd hb
  · exact q_gd h
theorem q_goodL {b : Cond} (l : List Cond) (hl : ∀ w ∈ l, w ∈ q_big) (hb : b ∈ q_big) : GoodIn q_big (l ++ (b :: q_big)) := by
  intro w hw
  rcases List.mem_append.mp hw with h | h
  · exact q_gd (hl w h)
  · exact q_good hb w h
theorem q_l2 {P : Cond → Prop} {a b : Cond} (h1 : P a) (h2 : P b) : ∀ w ∈ [a, b], P w := List.forall_mem_cons.mpr ⟨h1, List.forall_mem_cons.mpr ⟨h2, fun _ h => absurd h List.not_mem_nil⟩⟩
theorem q_l3 {P : Cond → Prop} {a b c : Cond} (h1 : P a) (h2 : P b) (h3 : P c) : ∀ w ∈ [a, b, c], P w := List.forall_mem_cons.mpr ⟨h1, q_l2 h2 h3⟩
theorem q_l4 {P : Cond → Prop} {a b c d : Cond} (h1 : P a) (h2 : P b) (h3 : P c) (h4 : P d) : ∀ w ∈ [a, b, c, d], P w := List.forall_mem_cons.mpr ⟨h1, q_l3 h2 h3 h4⟩
theorem q_l5 {P : Cond → Prop} {a b c d e : Cond} (h1 : P a) (h2 : P b) (h3 : P c) (h4 : P d) (h5 : P e) : ∀ w ∈ [a, b, c, d, e], P w := List.forall_mem_cons.mpr ⟨h1, q_l4 h2 h3 h4 h5⟩
theorem k_0 : Cond.selects "SlippedStreams$AddressStream" ⟨"SlippedStreams$Stream", "goOver", "()V"⟩ ⟨"SlippedStreams$Stream", "goOver", "()V"⟩ ∈ q_big := q_mem 0 (by decide +kernel) rfl
theorem k_1 : Cond.selects "SlippedStreams$ValueStream" ⟨"SlippedStreams$Stream", "goOver", "()V"⟩ ⟨"SlippedStreams$Stream", "goOver", "()V"⟩ ∈ q_big := q_mem 1 (by decide +kernel) rfl
theorem k_2 : Cond.selects "SlippedStreams$AddressStream" ⟨"SlippedStreams$Run", "combined", "(I)I"⟩ ⟨"SlippedStreams$Run", "combined", "(I)I"⟩ ∈ q_big := q_mem 2 (by decide +kernel) rfl
theorem k_3 : Cond.selects "SlippedStreams$ValueStream" ⟨"SlippedStreams$Run", "combined", "(I)I"⟩ ⟨"SlippedStreams$Run", "combined", "(I)I"⟩ ∈ q_big := q_mem 3 (by decide +kernel) rfl
theorem k_4 : Cond.selects "SlippedStreams$PlainRun" ⟨"SlippedStreams$Run", "combined", "(I)I"⟩ ⟨"SlippedStreams$Run", "combined", "(I)I"⟩ ∈ q_big := q_mem 4 (by decide +kernel) rfl
theorem k_5 : Cond.selects "SlippedStreams$Program" ⟨"SlippedStreams$Program", "slice", "()V"⟩ ⟨"SlippedStreams$Program", "slice", "()V"⟩ ∈ q_big := q_mem 5 (by decide +kernel) rfl
theorem k_6 : Cond.selects "SlippedStreams$Program" ⟨"SlippedStreams$Program", "findAddressRegisters", "()V"⟩ ⟨"SlippedStreams$Program", "findAddressRegisters", "()V"⟩ ∈ q_big := q_mem 6 (by decide +kernel) rfl
theorem k_7 : Cond.selects "SlippedStreams$Program" ⟨"SlippedStreams$Program", "belongsToAddresses", "(I)Z"⟩ ⟨"SlippedStreams$Program", "belongsToAddresses", "(I)Z"⟩ ∈ q_big := q_mem 7 (by decide +kernel) rfl
theorem k_8 : Cond.selects "SlippedStreams$Program" ⟨"SlippedStreams$Program", "findPassed", "(I)V"⟩ ⟨"SlippedStreams$Program", "findPassed", "(I)V"⟩ ∈ q_big := q_mem 8 (by decide +kernel) rfl
theorem k_9 : Cond.selects "SlippedStreams$Program" ⟨"SlippedStreams$Program", "firstRead", "(I)I"⟩ ⟨"SlippedStreams$Program", "firstRead", "(I)I"⟩ ∈ q_big := q_mem 9 (by decide +kernel) rfl
theorem k_10 : Cond.selects "SlippedStreams$Program" ⟨"SlippedStreams$Program", "secondRead", "(I)I"⟩ ⟨"SlippedStreams$Program", "secondRead", "(I)I"⟩ ∈ q_big := q_mem 10 (by decide +kernel) rfl
theorem k_11 : Cond.selects "SlippedStreams$Program" ⟨"SlippedStreams$Program", "findNothings", "(I)V"⟩ ⟨"SlippedStreams$Program", "findNothings", "(I)V"⟩ ∈ q_big := q_mem 11 (by decide +kernel) rfl
theorem k_12 : Cond.selects "SlippedStreams" ⟨"SlippedStreams", "beginAnew", "()V"⟩ ⟨"SlippedStreams", "beginAnew", "()V"⟩ ∈ q_big := q_mem 12 (by decide +kernel) rfl
theorem k_13 : Cond.selects "SlippedStreams$AddressStream" ⟨"SlippedStreams$AddressStream", "doOwn", "(I)Z"⟩ ⟨"SlippedStreams$AddressStream", "doOwn", "(I)Z"⟩ ∈ q_big := q_mem 13 (by decide +kernel) rfl
theorem k_14 : Cond.selects "SlippedStreams$AddressStream" ⟨"SlippedStreams$AddressStream", "load", "(I)Z"⟩ ⟨"SlippedStreams$AddressStream", "load", "(I)Z"⟩ ∈ q_big := q_mem 14 (by decide +kernel) rfl
theorem k_15 : Cond.selects "SlippedStreams$StoreList" ⟨"SlippedStreams$StoreList", "slot", "(I)I"⟩ ⟨"SlippedStreams$StoreList", "slot", "(I)I"⟩ ∈ q_big := q_mem 15 (by decide +kernel) rfl
theorem k_16 : Cond.selects "SlippedStreams$AddressStream" ⟨"SlippedStreams$AddressStream", "store", "(I)Z"⟩ ⟨"SlippedStreams$AddressStream", "store", "(I)Z"⟩ ∈ q_big := q_mem 16 (by decide +kernel) rfl
theorem k_17 : Cond.selects "SlippedStreams$StoreList" ⟨"SlippedStreams$StoreList", "know", "(II)V"⟩ ⟨"SlippedStreams$StoreList", "know", "(II)V"⟩ ∈ q_big := q_mem 17 (by decide +kernel) rfl
theorem k_18 : Cond.selects "SlippedStreams$AddressStream" ⟨"SlippedStreams$AddressStream", "serve", "(I)Z"⟩ ⟨"SlippedStreams$AddressStream", "serve", "(I)Z"⟩ ∈ q_big := q_mem 18 (by decide +kernel) rfl
theorem k_19 : Cond.selects "SlippedStreams$AddressStream" ⟨"SlippedStreams$AddressStream", "sendLoad", "(I)Z"⟩ ⟨"SlippedStreams$AddressStream", "sendLoad", "(I)Z"⟩ ∈ q_big := q_mem 19 (by decide +kernel) rfl
theorem k_20 : Cond.selects "SlippedStreams$AddressStream" ⟨"SlippedStreams$AddressStream", "hand", "(I)V"⟩ ⟨"SlippedStreams$AddressStream", "hand", "(I)V"⟩ ∈ q_big := q_mem 20 (by decide +kernel) rfl
theorem k_21 : Cond.selects "SlippedStreams$PlainRun" ⟨"SlippedStreams$PlainRun", "perform", "(I)V"⟩ ⟨"SlippedStreams$PlainRun", "perform", "(I)V"⟩ ∈ q_big := q_mem 21 (by decide +kernel) rfl
theorem k_22 : Cond.selects "SlippedStreams$ValueStream" ⟨"SlippedStreams$ValueStream", "receiveLoad", "(I)Z"⟩ ⟨"SlippedStreams$ValueStream", "receiveLoad", "(I)Z"⟩ ∈ q_big := q_mem 22 (by decide +kernel) rfl
theorem k_23 : Cond.selects "SlippedStreams$ValueStream" ⟨"SlippedStreams$ValueStream", "doOwn", "(I)Z"⟩ ⟨"SlippedStreams$ValueStream", "doOwn", "(I)Z"⟩ ∈ q_big := q_mem 23 (by decide +kernel) rfl
theorem k_24 : Cond.selects "SlippedStreams$ValueStream" ⟨"SlippedStreams$ValueStream", "receive", "(I)V"⟩ ⟨"SlippedStreams$ValueStream", "receive", "(I)V"⟩ ∈ q_big := q_mem 24 (by decide +kernel) rfl
theorem k_25 : Cond.selects "SlippedStreams$ValueStream" ⟨"SlippedStreams$ValueStream", "giveStored", "(I)Z"⟩ ⟨"SlippedStreams$ValueStream", "giveStored", "(I)Z"⟩ ∈ q_big := q_mem 25 (by decide +kernel) rfl
theorem k_26 : Cond.selects "SlippedStreams" ⟨"SlippedStreams", "noteLoss", "()V"⟩ ⟨"SlippedStreams", "noteLoss", "()V"⟩ ∈ q_big := q_mem 26 (by decide +kernel) rfl
theorem k_27 : Cond.selects "SlippedStreamsModel" ⟨"SlippedStreamsModel", "slice", "()V"⟩ ⟨"SlippedStreamsModel", "slice", "()V"⟩ ∈ q_big := q_mem 27 (by decide +kernel) rfl
theorem k_28 : Cond.selects "SlippedStreamsModel" ⟨"SlippedStreamsModel", "goOver", "(I)V"⟩ ⟨"SlippedStreamsModel", "goOver", "(I)V"⟩ ∈ q_big := q_mem 28 (by decide +kernel) rfl
theorem k_29 : Cond.selects "SlippedStreamsModel" ⟨"SlippedStreamsModel", "isNothing", "(II)Z"⟩ ⟨"SlippedStreamsModel", "isNothing", "(II)Z"⟩ ∈ q_big := q_mem 29 (by decide +kernel) rfl
theorem k_30 : Cond.selects "SlippedStreamsModel" ⟨"SlippedStreamsModel", "isBranch", "(I)Z"⟩ ⟨"SlippedStreamsModel", "isBranch", "(I)Z"⟩ ∈ q_big := q_mem 30 (by decide +kernel) rfl
theorem k_31 : Cond.selects "SlippedStreamsModel" ⟨"SlippedStreamsModel", "belongs", "(I)I"⟩ ⟨"SlippedStreamsModel", "belongs", "(I)I"⟩ ∈ q_big := q_mem 31 (by decide +kernel) rfl
theorem k_32 : Cond.selects "SlippedStreamsModel" ⟨"SlippedStreamsModel", "howMany", "(I)I"⟩ ⟨"SlippedStreamsModel", "howMany", "(I)I"⟩ ∈ q_big := q_mem 32 (by decide +kernel) rfl
theorem k_33 : Cond.selects "SlippedStreamsModel" ⟨"SlippedStreamsModel", "handed", "(II)I"⟩ ⟨"SlippedStreamsModel", "handed", "(II)I"⟩ ∈ q_big := q_mem 33 (by decide +kernel) rfl
theorem k_34 : Cond.selects "SlippedStreamsModel" ⟨"SlippedStreamsModel", "reads", "(II)I"⟩ ⟨"SlippedStreamsModel", "reads", "(II)I"⟩ ∈ q_big := q_mem 34 (by decide +kernel) rfl
theorem k_35 : Cond.selects "SlippedStreamsModel" ⟨"SlippedStreamsModel", "moveAddress", "()Z"⟩ ⟨"SlippedStreamsModel", "moveAddress", "()Z"⟩ ∈ q_big := q_mem 35 (by decide +kernel) rfl
theorem k_36 : Cond.selects "SlippedStreamsModel" ⟨"SlippedStreamsModel", "load", "(I)Z"⟩ ⟨"SlippedStreamsModel", "load", "(I)Z"⟩ ∈ q_big := q_mem 36 (by decide +kernel) rfl
theorem k_37 : Cond.selects "SlippedStreamsModel" ⟨"SlippedStreamsModel", "isInList", "(I)Z"⟩ ⟨"SlippedStreamsModel", "isInList", "(I)Z"⟩ ∈ q_big := q_mem 37 (by decide +kernel) rfl
theorem k_38 : Cond.selects "SlippedStreamsModel" ⟨"SlippedStreamsModel", "hasRoom", "(II)Z"⟩ ⟨"SlippedStreamsModel", "hasRoom", "(II)Z"⟩ ∈ q_big := q_mem 38 (by decide +kernel) rfl
theorem k_39 : Cond.selects "SlippedStreamsModel" ⟨"SlippedStreamsModel", "put", "(II)V"⟩ ⟨"SlippedStreamsModel", "put", "(II)V"⟩ ∈ q_big := q_mem 39 (by decide +kernel) rfl
theorem k_40 : Cond.selects "SlippedStreamsModel" ⟨"SlippedStreamsModel", "leave", "(II)V"⟩ ⟨"SlippedStreamsModel", "leave", "(II)V"⟩ ∈ q_big := q_mem 40 (by decide +kernel) rfl
theorem k_41 : Cond.selects "SlippedStreamsModel" ⟨"SlippedStreamsModel", "store", "(I)Z"⟩ ⟨"SlippedStreamsModel", "store", "(I)Z"⟩ ∈ q_big := q_mem 41 (by decide +kernel) rfl
theorem k_42 : Cond.selects "SlippedStreamsModel" ⟨"SlippedStreamsModel", "take", "(I)I"⟩ ⟨"SlippedStreamsModel", "take", "(I)I"⟩ ∈ q_big := q_mem 42 (by decide +kernel) rfl
theorem k_43 : Cond.selects "SlippedStreamsModel" ⟨"SlippedStreamsModel", "drain", "()V"⟩ ⟨"SlippedStreamsModel", "drain", "()V"⟩ ∈ q_big := q_mem 43 (by decide +kernel) rfl
theorem k_44 : Cond.selects "SlippedStreamsModel" ⟨"SlippedStreamsModel", "follow", "(I)Z"⟩ ⟨"SlippedStreamsModel", "follow", "(I)Z"⟩ ∈ q_big := q_mem 44 (by decide +kernel) rfl
theorem k_45 : Cond.selects "SlippedStreamsModel" ⟨"SlippedStreamsModel", "hand", "(I)V"⟩ ⟨"SlippedStreamsModel", "hand", "(I)V"⟩ ∈ q_big := q_mem 45 (by decide +kernel) rfl
theorem k_46 : Cond.selects "SlippedStreamsModel" ⟨"SlippedStreamsModel", "moveValue", "()Z"⟩ ⟨"SlippedStreamsModel", "moveValue", "()Z"⟩ ∈ q_big := q_mem 46 (by decide +kernel) rfl
theorem k_47 : Cond.selects "SlippedStreamsModel" ⟨"SlippedStreamsModel", "give", "(I)Z"⟩ ⟨"SlippedStreamsModel", "give", "(I)Z"⟩ ∈ q_big := q_mem 47 (by decide +kernel) rfl
theorem k_48 : Cond.selects "SlippedStreamsModel" ⟨"SlippedStreamsModel", "work", "(I)Z"⟩ ⟨"SlippedStreamsModel", "work", "(I)Z"⟩ ∈ q_big := q_mem 48 (by decide +kernel) rfl
theorem k_49 : Cond.selects "SlippedStreamsModel" ⟨"SlippedStreamsModel", "valueOf", "(II)I"⟩ ⟨"SlippedStreamsModel", "valueOf", "(II)I"⟩ ∈ q_big := q_mem 49 (by decide +kernel) rfl
theorem k_50 : Cond.selects "SlippedStreamsModel" ⟨"SlippedStreamsModel", "write", "(III)V"⟩ ⟨"SlippedStreamsModel", "write", "(III)V"⟩ ∈ q_big := q_mem 50 (by decide +kernel) rfl
theorem k_51 : Cond.selects "SlippedStreamsModel" ⟨"SlippedStreamsModel", "plainStep", "()V"⟩ ⟨"SlippedStreamsModel", "plainStep", "()V"⟩ ∈ q_big := q_mem 51 (by decide +kernel) rfl
theorem k_53 : Cond.initialized "SlippedStreams" ∈ q_big := q_mem 53 (by decide +kernel) rfl
theorem k_54 : Cond.initialized "SlippedStreams$Program" ∈ q_big := q_mem 54 (by decide +kernel) rfl
theorem k_55 : Cond.initialized "SlippedStreams$Link" ∈ q_big := q_mem 55 (by decide +kernel) rfl
theorem k_56 : Cond.initialized "SlippedStreams$Fifo" ∈ q_big := q_mem 56 (by decide +kernel) rfl
theorem k_57 : Cond.initialized "SlippedStreams$StoreList" ∈ q_big := q_mem 57 (by decide +kernel) rfl
theorem k_58 : Cond.initialized "SlippedStreams$Run" ∈ q_big := q_mem 58 (by decide +kernel) rfl
theorem k_59 : Cond.initialized "SlippedStreams$Stream" ∈ q_big := q_mem 59 (by decide +kernel) rfl
theorem k_60 : Cond.initialized "SlippedStreams$AddressStream" ∈ q_big := q_mem 60 (by decide +kernel) rfl
theorem k_61 : Cond.initialized "SlippedStreams$ValueStream" ∈ q_big := q_mem 61 (by decide +kernel) rfl
theorem k_62 : Cond.initialized "SlippedStreams$Written" ∈ q_big := q_mem 62 (by decide +kernel) rfl
theorem k_63 : Cond.initialized "SlippedStreams$PlainRun" ∈ q_big := q_mem 63 (by decide +kernel) rfl
theorem k_64 : Cond.initialized "SlippedStreamsModel" ∈ q_big := q_mem 64 (by decide +kernel) rfl
theorem k_65 : Cond.initialized "java/lang/System" ∈ q_big := q_mem 65 (by decide +kernel) rfl
theorem k_66 : Cond.initialized "java/util/Arrays" ∈ q_big := q_mem 66 (by decide +kernel) rfl
theorem k_67 : Cond.initialized "java/lang/Integer" ∈ q_big := q_mem 67 (by decide +kernel) rfl
theorem k_68 : Cond.initialized "java/lang/Math" ∈ q_big := q_mem 68 (by decide +kernel) rfl
theorem k_83 : Cond.fieldLink "SlippedStreams$Program" 9 "SlippedStreams$Program" "kinds" "[I" ∈ q_big := q_mem 83 (by decide +kernel) rfl
theorem k_84 : Cond.fieldLink "SlippedStreams$ValueStream" 48 "SlippedStreams$Program" "kinds" "[I" ∈ q_big := q_mem 84 (by decide +kernel) rfl
theorem k_85 : Cond.fieldLink "SlippedStreams$PlainRun" 74 "SlippedStreams$Program" "kinds" "[I" ∈ q_big := q_mem 85 (by decide +kernel) rfl
theorem k_86 : Cond.fieldLink "SlippedStreams$AddressStream" 54 "SlippedStreams$Program" "kinds" "[I" ∈ q_big := q_mem 86 (by decide +kernel) rfl
theorem k_87 : Cond.fieldLink "SlippedStreams$Run" 47 "SlippedStreams$Program" "kinds" "[I" ∈ q_big := q_mem 87 (by decide +kernel) rfl
theorem k_88 : Cond.fieldLink "SlippedStreams$Program" 15 "SlippedStreams$Program" "as" "[I" ∈ q_big := q_mem 88 (by decide +kernel) rfl
theorem k_89 : Cond.fieldLink "SlippedStreams$PlainRun" 71 "SlippedStreams$Program" "as" "[I" ∈ q_big := q_mem 89 (by decide +kernel) rfl
theorem k_90 : Cond.fieldLink "SlippedStreams$ValueStream" 89 "SlippedStreams$Program" "as" "[I" ∈ q_big := q_mem 90 (by decide +kernel) rfl
theorem k_91 : Cond.fieldLink "SlippedStreams$AddressStream" 105 "SlippedStreams$Program" "as" "[I" ∈ q_big := q_mem 91 (by decide +kernel) rfl
theorem k_92 : Cond.fieldLink "SlippedStreams$Run" 44 "SlippedStreams$Program" "as" "[I" ∈ q_big := q_mem 92 (by decide +kernel) rfl
theorem k_93 : Cond.fieldLink "SlippedStreams$Program" 18 "SlippedStreams$Program" "bs" "[I" ∈ q_big := q_mem 93 (by decide +kernel) rfl
theorem k_94 : Cond.fieldLink "SlippedStreams$Run" 38 "SlippedStreams$Program" "bs" "[I" ∈ q_big := q_mem 94 (by decide +kernel) rfl
theorem k_95 : Cond.fieldLink "SlippedStreams$Program" 21 "SlippedStreams$Program" "cs" "[I" ∈ q_big := q_mem 95 (by decide +kernel) rfl
theorem k_96 : Cond.fieldLink "SlippedStreams$Run" 41 "SlippedStreams$Program" "cs" "[I" ∈ q_big := q_mem 96 (by decide +kernel) rfl
theorem k_97 : Cond.fieldLink "SlippedStreams$Program" 24 "SlippedStreams$Program" "streams" "[I" ∈ q_big := q_mem 97 (by decide +kernel) rfl
theorem k_98 : Cond.fieldLink "SlippedStreams$AddressStream" 33 "SlippedStreams$Program" "streams" "[I" ∈ q_big := q_mem 98 (by decide +kernel) rfl
theorem k_99 : Cond.fieldLink "SlippedStreams$ValueStream" 40 "SlippedStreams$Program" "streams" "[I" ∈ q_big := q_mem 99 (by decide +kernel) rfl
theorem k_100 : Cond.fieldLink "SlippedStreams" 70 "SlippedStreams$Program" "streams" "[I" ∈ q_big := q_mem 100 (by decide +kernel) rfl
theorem k_101 : Cond.fieldLink "SlippedStreams$Program" 27 "SlippedStreams$Program" "firstPassed" "[I" ∈ q_big := q_mem 101 (by decide +kernel) rfl
theorem k_102 : Cond.fieldLink "SlippedStreams$ValueStream" 111 "SlippedStreams$Program" "firstPassed" "[I" ∈ q_big := q_mem 102 (by decide +kernel) rfl
theorem k_103 : Cond.fieldLink "SlippedStreams$AddressStream" 149 "SlippedStreams$Program" "firstPassed" "[I" ∈ q_big := q_mem 103 (by decide +kernel) rfl
theorem k_104 : Cond.fieldLink "SlippedStreams$Program" 30 "SlippedStreams$Program" "secondPassed" "[I" ∈ q_big := q_mem 104 (by decide +kernel) rfl
theorem k_105 : Cond.fieldLink "SlippedStreams$ValueStream" 118 "SlippedStreams$Program" "secondPassed" "[I" ∈ q_big := q_mem 105 (by decide +kernel) rfl
theorem k_106 : Cond.fieldLink "SlippedStreams$AddressStream" 155 "SlippedStreams$Program" "secondPassed" "[I" ∈ q_big := q_mem 106 (by decide +kernel) rfl
theorem k_107 : Cond.fieldLink "SlippedStreams$Program" 33 "SlippedStreams$Program" "passedCounts" "[I" ∈ q_big := q_mem 107 (by decide +kernel) rfl
theorem k_108 : Cond.fieldLink "SlippedStreams$AddressStream" 51 "SlippedStreams$Program" "passedCounts" "[I" ∈ q_big := q_mem 108 (by decide +kernel) rfl
theorem k_109 : Cond.fieldLink "SlippedStreams$ValueStream" 102 "SlippedStreams$Program" "passedCounts" "[I" ∈ q_big := q_mem 109 (by decide +kernel) rfl
theorem k_111 : Cond.fieldLink "SlippedStreams$Program" 36 "SlippedStreams$Program" "nothingForAddresses" "[Z" ∈ q_big := q_mem 111 (by decide +kernel) rfl
theorem k_113 : Cond.fieldLink "SlippedStreams$Program" 40 "SlippedStreams$Program" "nothingForValues" "[Z" ∈ q_big := q_mem 113 (by decide +kernel) rfl
theorem k_114 : Cond.fieldLink "SlippedStreams" 52 "SlippedStreams$Program" "size" "I" ∈ q_big := q_mem 114 (by decide +kernel) rfl
theorem k_115 : Cond.fieldLink "SlippedStreams$Program" 47 "SlippedStreams$Program" "size" "I" ∈ q_big := q_mem 115 (by decide +kernel) rfl
theorem k_116 : Cond.fieldLink "SlippedStreams$Run" 27 "SlippedStreams$Program" "size" "I" ∈ q_big := q_mem 116 (by decide +kernel) rfl
theorem k_117 : Cond.fieldLink "SlippedStreams$Stream" 66 "SlippedStreams$Program" "size" "I" ∈ q_big := q_mem 117 (by decide +kernel) rfl
theorem k_118 : Cond.fieldLink "SlippedStreams$Program" 54 "SlippedStreams$Program" "addressMask" "I" ∈ q_big := q_mem 118 (by decide +kernel) rfl
theorem k_119 : Cond.fieldLink "SlippedStreams" 73 "SlippedStreams$Program" "addressMask" "I" ∈ q_big := q_mem 119 (by decide +kernel) rfl
theorem k_120 : Cond.laysFinal "SlippedStreams$Program" "SlippedStreams$Program" "kinds" "[I" ∈ q_big := q_mem 120 (by decide +kernel) rfl
theorem k_122 : Cond.laysFinal "SlippedStreams$Program" "SlippedStreams$Program" "as" "[I" ∈ q_big := q_mem 122 (by decide +kernel) rfl
theorem k_124 : Cond.laysFinal "SlippedStreams$Program" "SlippedStreams$Program" "bs" "[I" ∈ q_big := q_mem 124 (by decide +kernel) rfl
theorem k_126 : Cond.laysFinal "SlippedStreams$Program" "SlippedStreams$Program" "cs" "[I" ∈ q_big := q_mem 126 (by decide +kernel) rfl
theorem k_128 : Cond.laysFinal "SlippedStreams$Program" "SlippedStreams$Program" "streams" "[I" ∈ q_big := q_mem 128 (by decide +kernel) rfl
theorem k_130 : Cond.laysFinal "SlippedStreams$Program" "SlippedStreams$Program" "firstPassed" "[I" ∈ q_big := q_mem 130 (by decide +kernel) rfl
theorem k_132 : Cond.laysFinal "SlippedStreams$Program" "SlippedStreams$Program" "secondPassed" "[I" ∈ q_big := q_mem 132 (by decide +kernel) rfl
theorem k_134 : Cond.laysFinal "SlippedStreams$Program" "SlippedStreams$Program" "passedCounts" "[I" ∈ q_big := q_mem 134 (by decide +kernel) rfl
theorem k_136 : Cond.laysFinal "SlippedStreams$Program" "SlippedStreams$Program" "nothingForAddresses" "[Z" ∈ q_big := q_mem 136 (by decide +kernel) rfl
theorem k_138 : Cond.laysFinal "SlippedStreams$Program" "SlippedStreams$Program" "nothingForValues" "[Z" ∈ q_big := q_mem 138 (by decide +kernel) rfl
theorem k_140 : Cond.lays "SlippedStreams$Program" "SlippedStreams$Program" "size" "I" ∈ q_big := q_mem 140 (by decide +kernel) rfl
theorem k_142 : Cond.lays "SlippedStreams$Program" "SlippedStreams$Program" "addressMask" "I" ∈ q_big := q_mem 142 (by decide +kernel) rfl
theorem k_159 : Cond.fieldLink "SlippedStreams$Fifo" 7 "SlippedStreams$Fifo" "things" "[I" ∈ q_big := q_mem 159 (by decide +kernel) rfl
theorem k_160 : Cond.fieldLink "SlippedStreams$Fifo" 13 "SlippedStreams$Fifo" "first" "I" ∈ q_big := q_mem 160 (by decide +kernel) rfl
theorem k_161 : Cond.fieldLink "SlippedStreams$Fifo" 17 "SlippedStreams$Fifo" "size" "I" ∈ q_big := q_mem 161 (by decide +kernel) rfl
theorem k_162 : Cond.fieldLink "SlippedStreams$ValueStream" 81 "SlippedStreams$Fifo" "size" "I" ∈ q_big := q_mem 162 (by decide +kernel) rfl
theorem k_163 : Cond.fieldLink "SlippedStreams$Stream" 55 "SlippedStreams$Fifo" "size" "I" ∈ q_big := q_mem 163 (by decide +kernel) rfl
theorem k_164 : Cond.fieldLink "SlippedStreams$AddressStream" 124 "SlippedStreams$Fifo" "size" "I" ∈ q_big := q_mem 164 (by decide +kernel) rfl
theorem k_165 : Cond.fieldLink "SlippedStreams" 112 "SlippedStreams$Fifo" "size" "I" ∈ q_big := q_mem 165 (by decide +kernel) rfl
theorem k_166 : Cond.laysFinal "SlippedStreams$Fifo" "SlippedStreams$Fifo" "things" "[I" ∈ q_big := q_mem 166 (by decide +kernel) rfl
theorem k_168 : Cond.lays "SlippedStreams$Fifo" "SlippedStreams$Fifo" "first" "I" ∈ q_big := q_mem 168 (by decide +kernel) rfl
theorem k_170 : Cond.lays "SlippedStreams$Fifo" "SlippedStreams$Fifo" "size" "I" ∈ q_big := q_mem 170 (by decide +kernel) rfl
theorem k_179 : Cond.fieldLink "SlippedStreams$StoreList" 22 "SlippedStreams$StoreList" "memory" "[I" ∈ q_big := q_mem 179 (by decide +kernel) rfl
theorem k_180 : Cond.fieldLink "SlippedStreams$StoreList" 9 "SlippedStreams$StoreList" "addresses" "[I" ∈ q_big := q_mem 180 (by decide +kernel) rfl
theorem k_181 : Cond.fieldLink "SlippedStreams$StoreList" 15 "SlippedStreams$StoreList" "values" "[I" ∈ q_big := q_mem 181 (by decide +kernel) rfl
theorem k_182 : Cond.fieldLink "SlippedStreams$StoreList" 18 "SlippedStreams$StoreList" "known" "[Z" ∈ q_big := q_mem 182 (by decide +kernel) rfl
theorem k_183 : Cond.fieldLink "SlippedStreams$StoreList" 25 "SlippedStreams$StoreList" "first" "I" ∈ q_big := q_mem 183 (by decide +kernel) rfl
theorem k_184 : Cond.fieldLink "SlippedStreams$StoreList" 29 "SlippedStreams$StoreList" "size" "I" ∈ q_big := q_mem 184 (by decide +kernel) rfl
theorem k_185 : Cond.fieldLink "SlippedStreams" 131 "SlippedStreams$StoreList" "size" "I" ∈ q_big := q_mem 185 (by decide +kernel) rfl
theorem k_186 : Cond.laysFinal "SlippedStreams$StoreList" "SlippedStreams$StoreList" "memory" "[I" ∈ q_big := q_mem 186 (by decide +kernel) rfl
theorem k_188 : Cond.laysFinal "SlippedStreams$StoreList" "SlippedStreams$StoreList" "addresses" "[I" ∈ q_big := q_mem 188 (by decide +kernel) rfl
theorem k_190 : Cond.laysFinal "SlippedStreams$StoreList" "SlippedStreams$StoreList" "values" "[I" ∈ q_big := q_mem 190 (by decide +kernel) rfl
theorem k_192 : Cond.laysFinal "SlippedStreams$StoreList" "SlippedStreams$StoreList" "known" "[Z" ∈ q_big := q_mem 192 (by decide +kernel) rfl
theorem k_194 : Cond.lays "SlippedStreams$StoreList" "SlippedStreams$StoreList" "first" "I" ∈ q_big := q_mem 194 (by decide +kernel) rfl
theorem k_196 : Cond.lays "SlippedStreams$StoreList" "SlippedStreams$StoreList" "size" "I" ∈ q_big := q_mem 196 (by decide +kernel) rfl
theorem k_199 : Cond.fieldLink "SlippedStreams$Link" 9 "SlippedStreams$Link" "memory" "[I" ∈ q_big := q_mem 199 (by decide +kernel) rfl
theorem k_200 : Cond.fieldLink "SlippedStreams$AddressStream" 108 "SlippedStreams$Link" "memory" "[I" ∈ q_big := q_mem 200 (by decide +kernel) rfl
theorem k_201 : Cond.fieldLink "SlippedStreams" 148 "SlippedStreams$Link" "memory" "[I" ∈ q_big := q_mem 201 (by decide +kernel) rfl
theorem k_202 : Cond.fieldLink "SlippedStreams$Link" 20 "SlippedStreams$Link" "loads" "LSlippedStreams$Fifo;" ∈ q_big := q_mem 202 (by decide +kernel) rfl
theorem k_203 : Cond.fieldLink "SlippedStreams$ValueStream" 78 "SlippedStreams$Link" "loads" "LSlippedStreams$Fifo;" ∈ q_big := q_mem 203 (by decide +kernel) rfl
theorem k_204 : Cond.fieldLink "SlippedStreams$AddressStream" 158 "SlippedStreams$Link" "loads" "LSlippedStreams$Fifo;" ∈ q_big := q_mem 204 (by decide +kernel) rfl
theorem k_205 : Cond.fieldLink "SlippedStreams" 108 "SlippedStreams$Link" "loads" "LSlippedStreams$Fifo;" ∈ q_big := q_mem 205 (by decide +kernel) rfl
theorem k_206 : Cond.fieldLink "SlippedStreams$Link" 24 "SlippedStreams$Link" "stored" "LSlippedStreams$Fifo;" ∈ q_big := q_mem 206 (by decide +kernel) rfl
theorem k_207 : Cond.fieldLink "SlippedStreams$ValueStream" 139 "SlippedStreams$Link" "stored" "LSlippedStreams$Fifo;" ∈ q_big := q_mem 207 (by decide +kernel) rfl
theorem k_208 : Cond.fieldLink "SlippedStreams$AddressStream" 121 "SlippedStreams$Link" "stored" "LSlippedStreams$Fifo;" ∈ q_big := q_mem 208 (by decide +kernel) rfl
theorem k_209 : Cond.fieldLink "SlippedStreams" 115 "SlippedStreams$Link" "stored" "LSlippedStreams$Fifo;" ∈ q_big := q_mem 209 (by decide +kernel) rfl
theorem k_210 : Cond.fieldLink "SlippedStreams$Link" 27 "SlippedStreams$Link" "valueOutcomes" "LSlippedStreams$Fifo;" ∈ q_big := q_mem 210 (by decide +kernel) rfl
theorem k_211 : Cond.fieldLink "SlippedStreams$ValueStream" 65 "SlippedStreams$Link" "valueOutcomes" "LSlippedStreams$Fifo;" ∈ q_big := q_mem 211 (by decide +kernel) rfl
theorem k_212 : Cond.fieldLink "SlippedStreams$AddressStream" 67 "SlippedStreams$Link" "valueOutcomes" "LSlippedStreams$Fifo;" ∈ q_big := q_mem 212 (by decide +kernel) rfl
theorem k_213 : Cond.fieldLink "SlippedStreams" 118 "SlippedStreams$Link" "valueOutcomes" "LSlippedStreams$Fifo;" ∈ q_big := q_mem 213 (by decide +kernel) rfl
theorem k_214 : Cond.fieldLink "SlippedStreams$Link" 30 "SlippedStreams$Link" "addressOutcomes" "LSlippedStreams$Fifo;" ∈ q_big := q_mem 214 (by decide +kernel) rfl
theorem k_215 : Cond.fieldLink "SlippedStreams$ValueStream" 105 "SlippedStreams$Link" "addressOutcomes" "LSlippedStreams$Fifo;" ∈ q_big := q_mem 215 (by decide +kernel) rfl
theorem k_216 : Cond.fieldLink "SlippedStreams$AddressStream" 140 "SlippedStreams$Link" "addressOutcomes" "LSlippedStreams$Fifo;" ∈ q_big := q_mem 216 (by decide +kernel) rfl
theorem k_217 : Cond.fieldLink "SlippedStreams" 121 "SlippedStreams$Link" "addressOutcomes" "LSlippedStreams$Fifo;" ∈ q_big := q_mem 217 (by decide +kernel) rfl
theorem k_218 : Cond.fieldLink "SlippedStreams$Link" 33 "SlippedStreams$Link" "passed" "LSlippedStreams$Fifo;" ∈ q_big := q_mem 218 (by decide +kernel) rfl
theorem k_219 : Cond.fieldLink "SlippedStreams$ValueStream" 99 "SlippedStreams$Link" "passed" "LSlippedStreams$Fifo;" ∈ q_big := q_mem 219 (by decide +kernel) rfl
theorem k_220 : Cond.fieldLink "SlippedStreams$AddressStream" 146 "SlippedStreams$Link" "passed" "LSlippedStreams$Fifo;" ∈ q_big := q_mem 220 (by decide +kernel) rfl
theorem k_221 : Cond.fieldLink "SlippedStreams" 124 "SlippedStreams$Link" "passed" "LSlippedStreams$Fifo;" ∈ q_big := q_mem 221 (by decide +kernel) rfl
theorem k_222 : Cond.fieldLink "SlippedStreams$Link" 41 "SlippedStreams$Link" "stores" "LSlippedStreams$StoreList;" ∈ q_big := q_mem 222 (by decide +kernel) rfl
theorem k_223 : Cond.fieldLink "SlippedStreams$AddressStream" 93 "SlippedStreams$Link" "stores" "LSlippedStreams$StoreList;" ∈ q_big := q_mem 223 (by decide +kernel) rfl
theorem k_224 : Cond.fieldLink "SlippedStreams$ValueStream" 130 "SlippedStreams$Link" "stores" "LSlippedStreams$StoreList;" ∈ q_big := q_mem 224 (by decide +kernel) rfl
theorem k_225 : Cond.fieldLink "SlippedStreams" 127 "SlippedStreams$Link" "stores" "LSlippedStreams$StoreList;" ∈ q_big := q_mem 225 (by decide +kernel) rfl
theorem k_226 : Cond.laysFinal "SlippedStreams$Link" "SlippedStreams$Link" "memory" "[I" ∈ q_big := q_mem 226 (by decide +kernel) rfl
theorem k_228 : Cond.laysFinal "SlippedStreams$Link" "SlippedStreams$Link" "loads" "LSlippedStreams$Fifo;" ∈ q_big := q_mem 228 (by decide +kernel) rfl
theorem k_230 : Cond.laysFinal "SlippedStreams$Link" "SlippedStreams$Link" "stored" "LSlippedStreams$Fifo;" ∈ q_big := q_mem 230 (by decide +kernel) rfl
theorem k_232 : Cond.laysFinal "SlippedStreams$Link" "SlippedStreams$Link" "valueOutcomes" "LSlippedStreams$Fifo;" ∈ q_big := q_mem 232 (by decide +kernel) rfl
theorem k_234 : Cond.laysFinal "SlippedStreams$Link" "SlippedStreams$Link" "addressOutcomes" "LSlippedStreams$Fifo;" ∈ q_big := q_mem 234 (by decide +kernel) rfl
theorem k_236 : Cond.laysFinal "SlippedStreams$Link" "SlippedStreams$Link" "passed" "LSlippedStreams$Fifo;" ∈ q_big := q_mem 236 (by decide +kernel) rfl
theorem k_238 : Cond.laysFinal "SlippedStreams$Link" "SlippedStreams$Link" "stores" "LSlippedStreams$StoreList;" ∈ q_big := q_mem 238 (by decide +kernel) rfl
theorem k_253 : Cond.fieldLink "SlippedStreams$AddressStream" 15 "SlippedStreams$AddressStream" "handed" "Z" ∈ q_big := q_mem 253 (by decide +kernel) rfl
theorem k_255 : Cond.fieldLink "SlippedStreams$ValueStream" 61 "SlippedStreams$ValueStream" "link" "LSlippedStreams$Link;" ∈ q_big := q_mem 255 (by decide +kernel) rfl
theorem k_256 : Cond.sameField "SlippedStreams$ValueStream" "SlippedStreams$Stream" "link" "LSlippedStreams$Link;" ∈ q_big := q_mem 256 (by decide +kernel) rfl
theorem k_257 : Cond.fieldLink "SlippedStreams$AddressStream" 63 "SlippedStreams$AddressStream" "link" "LSlippedStreams$Link;" ∈ q_big := q_mem 257 (by decide +kernel) rfl
theorem k_258 : Cond.sameField "SlippedStreams$AddressStream" "SlippedStreams$Stream" "link" "LSlippedStreams$Link;" ∈ q_big := q_mem 258 (by decide +kernel) rfl
theorem k_259 : Cond.fieldLink "SlippedStreams$Stream" 13 "SlippedStreams$Stream" "nothings" "[Z" ∈ q_big := q_mem 259 (by decide +kernel) rfl
theorem k_260 : Cond.fieldLink "SlippedStreams$Stream" 27 "SlippedStreams$Stream" "left" "I" ∈ q_big := q_mem 260 (by decide +kernel) rfl
theorem k_261 : Cond.fieldLink "SlippedStreams" 104 "SlippedStreams$AddressStream" "left" "I" ∈ q_big := q_mem 261 (by decide +kernel) rfl
theorem k_262 : Cond.sameField "SlippedStreams$AddressStream" "SlippedStreams$Stream" "left" "I" ∈ q_big := q_mem 262 (by decide +kernel) rfl
theorem k_263 : Cond.fieldLink "SlippedStreams" 107 "SlippedStreams$ValueStream" "left" "I" ∈ q_big := q_mem 263 (by decide +kernel) rfl
theorem k_264 : Cond.sameField "SlippedStreams$ValueStream" "SlippedStreams$Stream" "left" "I" ∈ q_big := q_mem 264 (by decide +kernel) rfl
theorem k_265 : Cond.fieldLink "SlippedStreams$Run" 15 "SlippedStreams$Run" "program" "LSlippedStreams$Program;" ∈ q_big := q_mem 265 (by decide +kernel) rfl
theorem k_266 : Cond.fieldLink "SlippedStreams$AddressStream" 29 "SlippedStreams$AddressStream" "program" "LSlippedStreams$Program;" ∈ q_big := q_mem 266 (by decide +kernel) rfl
theorem k_267 : Cond.sameField "SlippedStreams$AddressStream" "SlippedStreams$Run" "program" "LSlippedStreams$Program;" ∈ q_big := q_mem 267 (by decide +kernel) rfl
theorem k_268 : Cond.fieldLink "SlippedStreams$ValueStream" 36 "SlippedStreams$ValueStream" "program" "LSlippedStreams$Program;" ∈ q_big := q_mem 268 (by decide +kernel) rfl
theorem k_269 : Cond.sameField "SlippedStreams$ValueStream" "SlippedStreams$Run" "program" "LSlippedStreams$Program;" ∈ q_big := q_mem 269 (by decide +kernel) rfl
theorem k_270 : Cond.fieldLink "SlippedStreams$PlainRun" 50 "SlippedStreams$PlainRun" "program" "LSlippedStreams$Program;" ∈ q_big := q_mem 270 (by decide +kernel) rfl
theorem k_271 : Cond.sameField "SlippedStreams$PlainRun" "SlippedStreams$Run" "program" "LSlippedStreams$Program;" ∈ q_big := q_mem 271 (by decide +kernel) rfl
theorem k_272 : Cond.fieldLink "SlippedStreams$Stream" 62 "SlippedStreams$Stream" "program" "LSlippedStreams$Program;" ∈ q_big := q_mem 272 (by decide +kernel) rfl
theorem k_273 : Cond.sameField "SlippedStreams$Stream" "SlippedStreams$Run" "program" "LSlippedStreams$Program;" ∈ q_big := q_mem 273 (by decide +kernel) rfl
theorem k_274 : Cond.fieldLink "SlippedStreams$Run" 9 "SlippedStreams$Run" "registers" "[I" ∈ q_big := q_mem 274 (by decide +kernel) rfl
theorem k_275 : Cond.fieldLink "SlippedStreams$Stream" 17 "SlippedStreams$Stream" "registers" "[I" ∈ q_big := q_mem 275 (by decide +kernel) rfl
theorem k_276 : Cond.sameField "SlippedStreams$Stream" "SlippedStreams$Run" "registers" "[I" ∈ q_big := q_mem 276 (by decide +kernel) rfl
theorem k_277 : Cond.fieldLink "SlippedStreams$PlainRun" 30 "SlippedStreams$PlainRun" "registers" "[I" ∈ q_big := q_mem 277 (by decide +kernel) rfl
theorem k_278 : Cond.sameField "SlippedStreams$PlainRun" "SlippedStreams$Run" "registers" "[I" ∈ q_big := q_mem 278 (by decide +kernel) rfl
theorem k_279 : Cond.fieldLink "SlippedStreams$ValueStream" 86 "SlippedStreams$ValueStream" "registers" "[I" ∈ q_big := q_mem 279 (by decide +kernel) rfl
theorem k_280 : Cond.sameField "SlippedStreams$ValueStream" "SlippedStreams$Run" "registers" "[I" ∈ q_big := q_mem 280 (by decide +kernel) rfl
theorem k_281 : Cond.fieldLink "SlippedStreams$AddressStream" 102 "SlippedStreams$AddressStream" "registers" "[I" ∈ q_big := q_mem 281 (by decide +kernel) rfl
theorem k_282 : Cond.sameField "SlippedStreams$AddressStream" "SlippedStreams$Run" "registers" "[I" ∈ q_big := q_mem 282 (by decide +kernel) rfl
theorem k_283 : Cond.fieldLink "SlippedStreams" 137 "SlippedStreams$PlainRun" "registers" "[I" ∈ q_big := q_mem 283 (by decide +kernel) rfl
theorem k_284 : Cond.fieldLink "SlippedStreams" 143 "SlippedStreams$AddressStream" "registers" "[I" ∈ q_big := q_mem 284 (by decide +kernel) rfl
theorem k_285 : Cond.fieldLink "SlippedStreams" 144 "SlippedStreams$ValueStream" "registers" "[I" ∈ q_big := q_mem 285 (by decide +kernel) rfl
theorem k_286 : Cond.fieldLink "SlippedStreams$Stream" 31 "SlippedStreams$Stream" "at" "I" ∈ q_big := q_mem 286 (by decide +kernel) rfl
theorem k_287 : Cond.sameField "SlippedStreams$Stream" "SlippedStreams$Run" "at" "I" ∈ q_big := q_mem 287 (by decide +kernel) rfl
theorem k_288 : Cond.fieldLink "SlippedStreams$PlainRun" 42 "SlippedStreams$PlainRun" "at" "I" ∈ q_big := q_mem 288 (by decide +kernel) rfl
theorem k_289 : Cond.sameField "SlippedStreams$PlainRun" "SlippedStreams$Run" "at" "I" ∈ q_big := q_mem 289 (by decide +kernel) rfl
theorem k_290 : Cond.fieldLink "SlippedStreams$AddressStream" 37 "SlippedStreams$AddressStream" "at" "I" ∈ q_big := q_mem 290 (by decide +kernel) rfl
theorem k_291 : Cond.sameField "SlippedStreams$AddressStream" "SlippedStreams$Run" "at" "I" ∈ q_big := q_mem 291 (by decide +kernel) rfl
theorem k_292 : Cond.fieldLink "SlippedStreams$ValueStream" 44 "SlippedStreams$ValueStream" "at" "I" ∈ q_big := q_mem 292 (by decide +kernel) rfl
theorem k_293 : Cond.sameField "SlippedStreams$ValueStream" "SlippedStreams$Run" "at" "I" ∈ q_big := q_mem 293 (by decide +kernel) rfl
theorem k_294 : Cond.fieldLink "SlippedStreams$Run" 23 "SlippedStreams$Run" "at" "I" ∈ q_big := q_mem 294 (by decide +kernel) rfl
theorem k_295 : Cond.lays "SlippedStreams$AddressStream" "SlippedStreams$AddressStream" "handed" "Z" ∈ q_big := q_mem 295 (by decide +kernel) rfl
theorem k_297 : Cond.laysFinal "SlippedStreams$AddressStream" "SlippedStreams$Stream" "link" "LSlippedStreams$Link;" ∈ q_big := q_mem 297 (by decide +kernel) rfl
theorem k_299 : Cond.laysFinal "SlippedStreams$AddressStream" "SlippedStreams$Stream" "nothings" "[Z" ∈ q_big := q_mem 299 (by decide +kernel) rfl
theorem k_301 : Cond.lays "SlippedStreams$AddressStream" "SlippedStreams$Stream" "left" "I" ∈ q_big := q_mem 301 (by decide +kernel) rfl
theorem k_303 : Cond.laysFinal "SlippedStreams$AddressStream" "SlippedStreams$Run" "program" "LSlippedStreams$Program;" ∈ q_big := q_mem 303 (by decide +kernel) rfl
theorem k_305 : Cond.laysFinal "SlippedStreams$AddressStream" "SlippedStreams$Run" "registers" "[I" ∈ q_big := q_mem 305 (by decide +kernel) rfl
theorem k_307 : Cond.lays "SlippedStreams$AddressStream" "SlippedStreams$Run" "at" "I" ∈ q_big := q_mem 307 (by decide +kernel) rfl
theorem k_309 : Cond.superclass "SlippedStreams$AddressStream" "SlippedStreams$Stream" ∈ q_big := q_mem 309 (by decide +kernel) rfl
theorem k_322 : Cond.fieldLink "SlippedStreams$Written" 9 "SlippedStreams$Written" "kept" "[I" ∈ q_big := q_mem 322 (by decide +kernel) rfl
theorem k_323 : Cond.fieldLink "SlippedStreams$Written" 15 "SlippedStreams$Written" "count" "I" ∈ q_big := q_mem 323 (by decide +kernel) rfl
theorem k_324 : Cond.fieldLink "SlippedStreams" 157 "SlippedStreams$Written" "count" "I" ∈ q_big := q_mem 324 (by decide +kernel) rfl
theorem k_325 : Cond.laysFinal "SlippedStreams$Written" "SlippedStreams$Written" "kept" "[I" ∈ q_big := q_mem 325 (by decide +kernel) rfl
theorem k_327 : Cond.lays "SlippedStreams$Written" "SlippedStreams$Written" "count" "I" ∈ q_big := q_mem 327 (by decide +kernel) rfl
theorem k_330 : Cond.fieldLink "SlippedStreams$ValueStream" 20 "SlippedStreams$ValueStream" "written" "LSlippedStreams$Written;" ∈ q_big := q_mem 330 (by decide +kernel) rfl
theorem k_331 : Cond.fieldLink "SlippedStreams" 162 "SlippedStreams$ValueStream" "written" "LSlippedStreams$Written;" ∈ q_big := q_mem 331 (by decide +kernel) rfl
theorem k_332 : Cond.laysFinal "SlippedStreams$ValueStream" "SlippedStreams$ValueStream" "written" "LSlippedStreams$Written;" ∈ q_big := q_mem 332 (by decide +kernel) rfl
theorem k_334 : Cond.laysFinal "SlippedStreams$ValueStream" "SlippedStreams$Stream" "link" "LSlippedStreams$Link;" ∈ q_big := q_mem 334 (by decide +kernel) rfl
theorem k_335 : Cond.laysFinal "SlippedStreams$ValueStream" "SlippedStreams$Stream" "nothings" "[Z" ∈ q_big := q_mem 335 (by decide +kernel) rfl
theorem k_336 : Cond.lays "SlippedStreams$ValueStream" "SlippedStreams$Stream" "left" "I" ∈ q_big := q_mem 336 (by decide +kernel) rfl
theorem k_337 : Cond.laysFinal "SlippedStreams$ValueStream" "SlippedStreams$Run" "program" "LSlippedStreams$Program;" ∈ q_big := q_mem 337 (by decide +kernel) rfl
theorem k_338 : Cond.laysFinal "SlippedStreams$ValueStream" "SlippedStreams$Run" "registers" "[I" ∈ q_big := q_mem 338 (by decide +kernel) rfl
theorem k_339 : Cond.lays "SlippedStreams$ValueStream" "SlippedStreams$Run" "at" "I" ∈ q_big := q_mem 339 (by decide +kernel) rfl
theorem k_340 : Cond.superclass "SlippedStreams$ValueStream" "SlippedStreams$Stream" ∈ q_big := q_mem 340 (by decide +kernel) rfl
theorem k_349 : Cond.fieldLink "SlippedStreams$PlainRun" 9 "SlippedStreams$PlainRun" "memory" "[I" ∈ q_big := q_mem 349 (by decide +kernel) rfl
theorem k_350 : Cond.fieldLink "SlippedStreams" 145 "SlippedStreams$PlainRun" "memory" "[I" ∈ q_big := q_mem 350 (by decide +kernel) rfl
theorem k_351 : Cond.fieldLink "SlippedStreams$PlainRun" 20 "SlippedStreams$PlainRun" "written" "LSlippedStreams$Written;" ∈ q_big := q_mem 351 (by decide +kernel) rfl
theorem k_352 : Cond.fieldLink "SlippedStreams" 153 "SlippedStreams$PlainRun" "written" "LSlippedStreams$Written;" ∈ q_big := q_mem 352 (by decide +kernel) rfl
theorem k_353 : Cond.laysFinal "SlippedStreams$PlainRun" "SlippedStreams$PlainRun" "memory" "[I" ∈ q_big := q_mem 353 (by decide +kernel) rfl
theorem k_355 : Cond.laysFinal "SlippedStreams$PlainRun" "SlippedStreams$PlainRun" "written" "LSlippedStreams$Written;" ∈ q_big := q_mem 355 (by decide +kernel) rfl
theorem k_357 : Cond.laysFinal "SlippedStreams$PlainRun" "SlippedStreams$Run" "program" "LSlippedStreams$Program;" ∈ q_big := q_mem 357 (by decide +kernel) rfl
theorem k_358 : Cond.laysFinal "SlippedStreams$PlainRun" "SlippedStreams$Run" "registers" "[I" ∈ q_big := q_mem 358 (by decide +kernel) rfl
theorem k_359 : Cond.lays "SlippedStreams$PlainRun" "SlippedStreams$Run" "at" "I" ∈ q_big := q_mem 359 (by decide +kernel) rfl
theorem k_361 : Cond.fieldLink "SlippedStreams" 10 "SlippedStreams" "program" "LSlippedStreams$Program;" ∈ q_big := q_mem 361 (by decide +kernel) rfl
theorem k_362 : Cond.fieldLink "SlippedStreams" 16 "SlippedStreams" "filled" "[I" ∈ q_big := q_mem 362 (by decide +kernel) rfl
theorem k_363 : Cond.fieldLink "SlippedStreams" 23 "SlippedStreams" "link" "LSlippedStreams$Link;" ∈ q_big := q_mem 363 (by decide +kernel) rfl
theorem k_364 : Cond.fieldLink "SlippedStreams" 32 "SlippedStreams" "addressStream" "LSlippedStreams$AddressStream;" ∈ q_big := q_mem 364 (by decide +kernel) rfl
theorem k_365 : Cond.fieldLink "SlippedStreams" 39 "SlippedStreams" "valueStream" "LSlippedStreams$ValueStream;" ∈ q_big := q_mem 365 (by decide +kernel) rfl
theorem k_366 : Cond.fieldLink "SlippedStreams" 48 "SlippedStreams" "plainRun" "LSlippedStreams$PlainRun;" ∈ q_big := q_mem 366 (by decide +kernel) rfl
theorem k_367 : Cond.fieldLink "SlippedStreams" 149 "SlippedStreams" "lost" "I" ∈ q_big := q_mem 367 (by decide +kernel) rfl
theorem k_368 : Cond.laysFinal "SlippedStreams" "SlippedStreams" "program" "LSlippedStreams$Program;" ∈ q_big := q_mem 368 (by decide +kernel) rfl
theorem k_370 : Cond.laysFinal "SlippedStreams" "SlippedStreams" "filled" "[I" ∈ q_big := q_mem 370 (by decide +kernel) rfl
theorem k_372 : Cond.laysFinal "SlippedStreams" "SlippedStreams" "link" "LSlippedStreams$Link;" ∈ q_big := q_mem 372 (by decide +kernel) rfl
theorem k_374 : Cond.laysFinal "SlippedStreams" "SlippedStreams" "addressStream" "LSlippedStreams$AddressStream;" ∈ q_big := q_mem 374 (by decide +kernel) rfl
theorem k_376 : Cond.laysFinal "SlippedStreams" "SlippedStreams" "valueStream" "LSlippedStreams$ValueStream;" ∈ q_big := q_mem 376 (by decide +kernel) rfl
theorem k_378 : Cond.laysFinal "SlippedStreams" "SlippedStreams" "plainRun" "LSlippedStreams$PlainRun;" ∈ q_big := q_mem 378 (by decide +kernel) rfl
theorem k_380 : Cond.lays "SlippedStreams" "SlippedStreams" "lost" "I" ∈ q_big := q_mem 380 (by decide +kernel) rfl
theorem k_387 : Cond.methodLink "SlippedStreams" 56 ⟨"SlippedStreams$Program", "isSound", "(IIII)Z"⟩ ∈ q_big := q_mem 387 (by decide +kernel) rfl
theorem k_388 : Cond.static ⟨"SlippedStreams$Program", "isSound", "(IIII)Z"⟩ ∈ q_big := q_mem 388 (by decide +kernel) rfl
set_option maxRecDepth 100000 in
theorem k_389 : Cond.code ⟨"SlippedStreams$Program", "isSound", "(IIII)Z"⟩ prog_6_method_2_code 4 (some .boolean) ∈ q_big := q_mem 389 (rfl) rfl
theorem k_391 : Cond.static ⟨"SlippedStreams", "isRegister", "(I)Z"⟩ ∈ q_big := q_mem 391 (by decide +kernel) rfl
set_option maxRecDepth 100000 in
theorem k_392 : Cond.code ⟨"SlippedStreams", "isRegister", "(I)Z"⟩ prog_1_method_23_code 1 (some .boolean) ∈ q_big := q_mem 392 (rfl) rfl
theorem k_393 : Cond.methodLink "SlippedStreams" 60 ⟨"SlippedStreams$Program", "append", "(IIII)I"⟩ ∈ q_big := q_mem 393 (by decide +kernel) rfl
theorem k_394 : Cond.instanceMethod ⟨"SlippedStreams$Program", "append", "(IIII)I"⟩ ∈ q_big := q_mem 394 (by decide +kernel) rfl
theorem k_395 : Cond.selects "SlippedStreams$Program" ⟨"SlippedStreams$Program", "append", "(IIII)I"⟩ ⟨"SlippedStreams$Program", "append", "(IIII)I"⟩ ∈ q_big := q_mem 395 (by decide +kernel) rfl
set_option maxRecDepth 100000 in
theorem k_396 : Cond.code ⟨"SlippedStreams$Program", "append", "(IIII)I"⟩ prog_6_method_3_code 6 (some .int) ∈ q_big := q_mem 396 (rfl) rfl
theorem k_397 : Cond.methodLink "SlippedStreams$Program" 51 ⟨"SlippedStreams$Program", "slice", "()V"⟩ ∈ q_big := q_mem 397 (by decide +kernel) rfl
theorem k_399 : Cond.instanceMethod ⟨"SlippedStreams$Program", "slice", "()V"⟩ ∈ q_big := q_mem 399 (by decide +kernel) rfl
set_option maxRecDepth 100000 in
theorem k_400 : Cond.code ⟨"SlippedStreams$Program", "slice", "()V"⟩ prog_6_method_8_code 2 none ∈ q_big := q_mem 400 (rfl) rfl
theorem k_401 : Cond.methodLink "SlippedStreams$Program" 57 ⟨"SlippedStreams$Program", "findAddressRegisters", "()V"⟩ ∈ q_big := q_mem 401 (by decide +kernel) rfl
theorem k_403 : Cond.instanceMethod ⟨"SlippedStreams$Program", "findAddressRegisters", "()V"⟩ ∈ q_big := q_mem 403 (by decide +kernel) rfl
set_option maxRecDepth 100000 in
theorem k_404 : Cond.code ⟨"SlippedStreams$Program", "findAddressRegisters", "()V"⟩ prog_6_method_9_code 3 none ∈ q_big := q_mem 404 (rfl) rfl
theorem k_405 : Cond.methodLink "SlippedStreams$Program" 70 ⟨"SlippedStreams$Program", "isArithmetic", "(I)Z"⟩ ∈ q_big := q_mem 405 (by decide +kernel) rfl
theorem k_406 : Cond.instanceMethod ⟨"SlippedStreams$Program", "isArithmetic", "(I)Z"⟩ ∈ q_big := q_mem 406 (by decide +kernel) rfl
theorem k_407 : Cond.selects "SlippedStreams$Program" ⟨"SlippedStreams$Program", "isArithmetic", "(I)Z"⟩ ⟨"SlippedStreams$Program", "isArithmetic", "(I)Z"⟩ ∈ q_big := q_mem 407 (by decide +kernel) rfl
set_option maxRecDepth 100000 in
theorem k_408 : Cond.code ⟨"SlippedStreams$Program", "isArithmetic", "(I)Z"⟩ prog_6_method_6_code 2 (some .boolean) ∈ q_big := q_mem 408 (rfl) rfl
theorem k_409 : Cond.methodLink "SlippedStreams$Program" 73 ⟨"SlippedStreams$Program", "isAddressRegister", "(I)Z"⟩ ∈ q_big := q_mem 409 (by decide +kernel) rfl
theorem k_410 : Cond.instanceMethod ⟨"SlippedStreams$Program", "isAddressRegister", "(I)Z"⟩ ∈ q_big := q_mem 410 (by decide +kernel) rfl
theorem k_411 : Cond.selects "SlippedStreams$Program" ⟨"SlippedStreams$Program", "isAddressRegister", "(I)Z"⟩ ⟨"SlippedStreams$Program", "isAddressRegister", "(I)Z"⟩ ∈ q_big := q_mem 411 (by decide +kernel) rfl
set_option maxRecDepth 100000 in
theorem k_412 : Cond.code ⟨"SlippedStreams$Program", "isAddressRegister", "(I)Z"⟩ prog_6_method_5_code 2 (some .boolean) ∈ q_big := q_mem 412 (rfl) rfl
theorem k_413 : Cond.methodLink "SlippedStreams$Program" 60 ⟨"SlippedStreams$Program", "belongsToAddresses", "(I)Z"⟩ ∈ q_big := q_mem 413 (by decide +kernel) rfl
theorem k_415 : Cond.instanceMethod ⟨"SlippedStreams$Program", "belongsToAddresses", "(I)Z"⟩ ∈ q_big := q_mem 415 (by decide +kernel) rfl
set_option maxRecDepth 100000 in
theorem k_416 : Cond.code ⟨"SlippedStreams$Program", "belongsToAddresses", "(I)Z"⟩ prog_6_method_10_code 2 (some .boolean) ∈ q_big := q_mem 416 (rfl) rfl
theorem k_417 : Cond.methodLink "SlippedStreams$Program" 76 ⟨"SlippedStreams$Program", "isBranch", "(I)Z"⟩ ∈ q_big := q_mem 417 (by decide +kernel) rfl
theorem k_418 : Cond.instanceMethod ⟨"SlippedStreams$Program", "isBranch", "(I)Z"⟩ ∈ q_big := q_mem 418 (by decide +kernel) rfl
theorem k_419 : Cond.selects "SlippedStreams$Program" ⟨"SlippedStreams$Program", "isBranch", "(I)Z"⟩ ⟨"SlippedStreams$Program", "isBranch", "(I)Z"⟩ ∈ q_big := q_mem 419 (by decide +kernel) rfl
set_option maxRecDepth 100000 in
theorem k_420 : Cond.code ⟨"SlippedStreams$Program", "isBranch", "(I)Z"⟩ prog_6_method_7_code 2 (some .boolean) ∈ q_big := q_mem 420 (rfl) rfl
theorem k_421 : Cond.methodLink "SlippedStreams$Program" 63 ⟨"SlippedStreams$Program", "findPassed", "(I)V"⟩ ∈ q_big := q_mem 421 (by decide +kernel) rfl
theorem k_423 : Cond.instanceMethod ⟨"SlippedStreams$Program", "findPassed", "(I)V"⟩ ∈ q_big := q_mem 423 (by decide +kernel) rfl
set_option maxRecDepth 100000 in
theorem k_424 : Cond.code ⟨"SlippedStreams$Program", "findPassed", "(I)V"⟩ prog_6_method_11_code 5 none ∈ q_big := q_mem 424 (rfl) rfl
theorem k_425 : Cond.methodLink "SlippedStreams$Program" 79 ⟨"SlippedStreams$Program", "firstRead", "(I)I"⟩ ∈ q_big := q_mem 425 (by decide +kernel) rfl
theorem k_427 : Cond.instanceMethod ⟨"SlippedStreams$Program", "firstRead", "(I)I"⟩ ∈ q_big := q_mem 427 (by decide +kernel) rfl
set_option maxRecDepth 100000 in
theorem k_428 : Cond.code ⟨"SlippedStreams$Program", "firstRead", "(I)I"⟩ prog_6_method_13_code 2 (some .int) ∈ q_big := q_mem 428 (rfl) rfl
theorem k_429 : Cond.methodLink "SlippedStreams$Program" 83 ⟨"SlippedStreams$Program", "secondRead", "(I)I"⟩ ∈ q_big := q_mem 429 (by decide +kernel) rfl
theorem k_431 : Cond.instanceMethod ⟨"SlippedStreams$Program", "secondRead", "(I)I"⟩ ∈ q_big := q_mem 431 (by decide +kernel) rfl
set_option maxRecDepth 100000 in
theorem k_432 : Cond.code ⟨"SlippedStreams$Program", "secondRead", "(I)I"⟩ prog_6_method_14_code 2 (some .int) ∈ q_big := q_mem 432 (rfl) rfl
theorem k_433 : Cond.methodLink "SlippedStreams$Program" 67 ⟨"SlippedStreams$Program", "findNothings", "(I)V"⟩ ∈ q_big := q_mem 433 (by decide +kernel) rfl
theorem k_435 : Cond.instanceMethod ⟨"SlippedStreams$Program", "findNothings", "(I)V"⟩ ∈ q_big := q_mem 435 (by decide +kernel) rfl
set_option maxRecDepth 100000 in
theorem k_436 : Cond.code ⟨"SlippedStreams$Program", "findNothings", "(I)V"⟩ prog_6_method_12_code 4 none ∈ q_big := q_mem 436 (rfl) rfl
theorem k_437 : Cond.methodLink "SlippedStreams" 64 ⟨"SlippedStreams", "beginAnew", "()V"⟩ ∈ q_big := q_mem 437 (by decide +kernel) rfl
theorem k_439 : Cond.instanceMethod ⟨"SlippedStreams", "beginAnew", "()V"⟩ ∈ q_big := q_mem 439 (by decide +kernel) rfl
set_option maxRecDepth 100000 in
theorem k_440 : Cond.code ⟨"SlippedStreams", "beginAnew", "()V"⟩ prog_1_method_20_code 1 none ∈ q_big := q_mem 440 (rfl) rfl
theorem k_441 : Cond.methodLink "SlippedStreams" 166 ⟨"SlippedStreams$Link", "begin", "([I)V"⟩ ∈ q_big := q_mem 441 (by decide +kernel) rfl
theorem k_442 : Cond.instanceMethod ⟨"SlippedStreams$Link", "begin", "([I)V"⟩ ∈ q_big := q_mem 442 (by decide +kernel) rfl
theorem k_443 : Cond.selects "SlippedStreams$Link" ⟨"SlippedStreams$Link", "begin", "([I)V"⟩ ⟨"SlippedStreams$Link", "begin", "([I)V"⟩ ∈ q_big := q_mem 443 (by decide +kernel) rfl
set_option maxRecDepth 100000 in
theorem k_444 : Cond.code ⟨"SlippedStreams$Link", "begin", "([I)V"⟩ prog_4_method_2_code 2 none ∈ q_big := q_mem 444 (rfl) rfl
theorem k_445 : Cond.methodLink "SlippedStreams$Link" 45 ⟨"java/lang/System", "arraycopy", "(Ljava/lang/Object;ILjava/lang/Object;II)V"⟩ ∈ q_big := q_mem 445 (by decide +kernel) rfl
theorem k_446 : Cond.static ⟨"java/lang/System", "arraycopy", "(Ljava/lang/Object;ILjava/lang/Object;II)V"⟩ ∈ q_big := q_mem 446 (by decide +kernel) rfl
theorem k_447 : Cond.native ⟨"java/lang/System", "arraycopy", "(Ljava/lang/Object;ILjava/lang/Object;II)V"⟩ ∈ q_big := q_mem 447 (by decide +kernel) rfl
theorem k_448 : Cond.methodLink "SlippedStreams$Link" 51 ⟨"SlippedStreams$Fifo", "empty", "()V"⟩ ∈ q_big := q_mem 448 (by decide +kernel) rfl
theorem k_449 : Cond.instanceMethod ⟨"SlippedStreams$Fifo", "empty", "()V"⟩ ∈ q_big := q_mem 449 (by decide +kernel) rfl
theorem k_450 : Cond.selects "SlippedStreams$Fifo" ⟨"SlippedStreams$Fifo", "empty", "()V"⟩ ⟨"SlippedStreams$Fifo", "empty", "()V"⟩ ∈ q_big := q_mem 450 (by decide +kernel) rfl
set_option maxRecDepth 100000 in
theorem k_451 : Cond.code ⟨"SlippedStreams$Fifo", "empty", "()V"⟩ prog_3_method_2_code 1 none ∈ q_big := q_mem 451 (rfl) rfl
theorem k_452 : Cond.methodLink "SlippedStreams$Link" 54 ⟨"SlippedStreams$StoreList", "empty", "()V"⟩ ∈ q_big := q_mem 452 (by decide +kernel) rfl
theorem k_453 : Cond.instanceMethod ⟨"SlippedStreams$StoreList", "empty", "()V"⟩ ∈ q_big := q_mem 453 (by decide +kernel) rfl
theorem k_454 : Cond.selects "SlippedStreams$StoreList" ⟨"SlippedStreams$StoreList", "empty", "()V"⟩ ⟨"SlippedStreams$StoreList", "empty", "()V"⟩ ∈ q_big := q_mem 454 (by decide +kernel) rfl
set_option maxRecDepth 100000 in
theorem k_455 : Cond.code ⟨"SlippedStreams$StoreList", "empty", "()V"⟩ prog_8_method_2_code 1 none ∈ q_big := q_mem 455 (rfl) rfl
theorem k_456 : Cond.methodLink "SlippedStreams" 170 ⟨"SlippedStreams$AddressStream", "begin", "()V"⟩ ∈ q_big := q_mem 456 (by decide +kernel) rfl
theorem k_457 : Cond.instanceMethod ⟨"SlippedStreams$AddressStream", "begin", "()V"⟩ ∈ q_big := q_mem 457 (by decide +kernel) rfl
theorem k_458 : Cond.selects "SlippedStreams$AddressStream" ⟨"SlippedStreams$AddressStream", "begin", "()V"⟩ ⟨"SlippedStreams$AddressStream", "begin", "()V"⟩ ∈ q_big := q_mem 458 (by decide +kernel) rfl
set_option maxRecDepth 100000 in
theorem k_459 : Cond.code ⟨"SlippedStreams$AddressStream", "begin", "()V"⟩ prog_2_method_2_code 1 none ∈ q_big := q_mem 459 (rfl) rfl
theorem k_460 : Cond.methodLink "SlippedStreams$AddressStream" 21 ⟨"SlippedStreams$Stream", "begin", "()V"⟩ ∈ q_big := q_mem 460 (by decide +kernel) rfl
theorem k_461 : Cond.instanceMethod ⟨"SlippedStreams$Stream", "begin", "()V"⟩ ∈ q_big := q_mem 461 (by decide +kernel) rfl
set_option maxRecDepth 100000 in
theorem k_462 : Cond.code ⟨"SlippedStreams$Stream", "begin", "()V"⟩ prog_9_method_2_code 1 none ∈ q_big := q_mem 462 (rfl) rfl
theorem k_463 : Cond.methodLink "SlippedStreams$Stream" 21 ⟨"java/util/Arrays", "fill", "([II)V"⟩ ∈ q_big := q_mem 463 (by decide +kernel) rfl
theorem k_464 : Cond.static ⟨"java/util/Arrays", "fill", "([II)V"⟩ ∈ q_big := q_mem 464 (by decide +kernel) rfl
set_option maxRecDepth 100000 in
theorem k_465 : Cond.code ⟨"java/util/Arrays", "fill", "([II)V"⟩ prog_17_method_103_code 4 none ∈ q_big := q_mem 465 (rfl) rfl
theorem k_466 : Cond.methodLink "SlippedStreams$Stream" 34 ⟨"SlippedStreams$Stream", "goOver", "()V"⟩ ∈ q_big := q_mem 466 (by decide +kernel) rfl
theorem k_468 : Cond.instanceMethod ⟨"SlippedStreams$Stream", "goOver", "()V"⟩ ∈ q_big := q_mem 468 (by decide +kernel) rfl
set_option maxRecDepth 100000 in
theorem k_469 : Cond.code ⟨"SlippedStreams$Stream", "goOver", "()V"⟩ prog_9_method_6_code 1 none ∈ q_big := q_mem 469 (rfl) rfl
theorem k_470 : Cond.methodLink "SlippedStreams" 172 ⟨"SlippedStreams$ValueStream", "begin", "()V"⟩ ∈ q_big := q_mem 470 (by decide +kernel) rfl
theorem k_471 : Cond.instanceMethod ⟨"SlippedStreams$ValueStream", "begin", "()V"⟩ ∈ q_big := q_mem 471 (by decide +kernel) rfl
theorem k_472 : Cond.selects "SlippedStreams$ValueStream" ⟨"SlippedStreams$ValueStream", "begin", "()V"⟩ ⟨"SlippedStreams$ValueStream", "begin", "()V"⟩ ∈ q_big := q_mem 472 (by decide +kernel) rfl
set_option maxRecDepth 100000 in
theorem k_473 : Cond.code ⟨"SlippedStreams$ValueStream", "begin", "()V"⟩ prog_10_method_2_code 1 none ∈ q_big := q_mem 473 (rfl) rfl
theorem k_474 : Cond.methodLink "SlippedStreams$ValueStream" 26 ⟨"SlippedStreams$Written", "empty", "()V"⟩ ∈ q_big := q_mem 474 (by decide +kernel) rfl
theorem k_475 : Cond.instanceMethod ⟨"SlippedStreams$Written", "empty", "()V"⟩ ∈ q_big := q_mem 475 (by decide +kernel) rfl
theorem k_476 : Cond.selects "SlippedStreams$Written" ⟨"SlippedStreams$Written", "empty", "()V"⟩ ⟨"SlippedStreams$Written", "empty", "()V"⟩ ∈ q_big := q_mem 476 (by decide +kernel) rfl
set_option maxRecDepth 100000 in
theorem k_477 : Cond.code ⟨"SlippedStreams$Written", "empty", "()V"⟩ prog_11_method_2_code 1 none ∈ q_big := q_mem 477 (rfl) rfl
theorem k_478 : Cond.methodLink "SlippedStreams$ValueStream" 29 ⟨"SlippedStreams$Stream", "begin", "()V"⟩ ∈ q_big := q_mem 478 (by decide +kernel) rfl
theorem k_479 : Cond.methodLink "SlippedStreams" 173 ⟨"SlippedStreams$PlainRun", "begin", "([I)V"⟩ ∈ q_big := q_mem 479 (by decide +kernel) rfl
theorem k_480 : Cond.instanceMethod ⟨"SlippedStreams$PlainRun", "begin", "([I)V"⟩ ∈ q_big := q_mem 480 (by decide +kernel) rfl
theorem k_481 : Cond.selects "SlippedStreams$PlainRun" ⟨"SlippedStreams$PlainRun", "begin", "([I)V"⟩ ⟨"SlippedStreams$PlainRun", "begin", "([I)V"⟩ ∈ q_big := q_mem 481 (by decide +kernel) rfl
set_option maxRecDepth 100000 in
theorem k_482 : Cond.code ⟨"SlippedStreams$PlainRun", "begin", "([I)V"⟩ prog_5_method_2_code 2 none ∈ q_big := q_mem 482 (rfl) rfl
theorem k_483 : Cond.methodLink "SlippedStreams$PlainRun" 24 ⟨"java/lang/System", "arraycopy", "(Ljava/lang/Object;ILjava/lang/Object;II)V"⟩ ∈ q_big := q_mem 483 (by decide +kernel) rfl
theorem k_484 : Cond.methodLink "SlippedStreams$PlainRun" 33 ⟨"java/util/Arrays", "fill", "([II)V"⟩ ∈ q_big := q_mem 484 (by decide +kernel) rfl
theorem k_485 : Cond.methodLink "SlippedStreams$PlainRun" 39 ⟨"SlippedStreams$Written", "empty", "()V"⟩ ∈ q_big := q_mem 485 (by decide +kernel) rfl
theorem k_494 : Cond.methodLink "SlippedStreams" 67 ⟨"SlippedStreams$Program", "removeAll", "()V"⟩ ∈ q_big := q_mem 494 (by decide +kernel) rfl
theorem k_495 : Cond.instanceMethod ⟨"SlippedStreams$Program", "removeAll", "()V"⟩ ∈ q_big := q_mem 495 (by decide +kernel) rfl
theorem k_496 : Cond.selects "SlippedStreams$Program" ⟨"SlippedStreams$Program", "removeAll", "()V"⟩ ⟨"SlippedStreams$Program", "removeAll", "()V"⟩ ∈ q_big := q_mem 496 (by decide +kernel) rfl
set_option maxRecDepth 100000 in
theorem k_497 : Cond.code ⟨"SlippedStreams$Program", "removeAll", "()V"⟩ prog_6_method_4_code 1 none ∈ q_big := q_mem 497 (rfl) rfl
theorem k_510 : Cond.methodLink "SlippedStreams" 76 ⟨"java/lang/Integer", "bitCount", "(I)I"⟩ ∈ q_big := q_mem 510 (by decide +kernel) rfl
theorem k_511 : Cond.static ⟨"java/lang/Integer", "bitCount", "(I)I"⟩ ∈ q_big := q_mem 511 (by decide +kernel) rfl
set_option maxRecDepth 100000 in
theorem k_512 : Cond.code ⟨"java/lang/Integer", "bitCount", "(I)I"⟩ prog_14_method_49_code 1 (some .int) ∈ q_big := q_mem 512 (rfl) rfl
theorem k_513 : Cond.constant "java/lang/Integer" 265 1431655765 ∈ q_big := q_mem 513 (by decide +kernel) rfl
theorem k_514 : Cond.constant "java/lang/Integer" 266 858993459 ∈ q_big := q_mem 514 (by decide +kernel) rfl
theorem k_515 : Cond.constant "java/lang/Integer" 267 252645135 ∈ q_big := q_mem 515 (by decide +kernel) rfl
theorem k_520 : Cond.methodLink "SlippedStreams" 82 ⟨"SlippedStreams", "isMoveCount", "(I)Z"⟩ ∈ q_big := q_mem 520 (by decide +kernel) rfl
theorem k_521 : Cond.static ⟨"SlippedStreams", "isMoveCount", "(I)Z"⟩ ∈ q_big := q_mem 521 (by decide +kernel) rfl
set_option maxRecDepth 100000 in
theorem k_522 : Cond.code ⟨"SlippedStreams", "isMoveCount", "(I)Z"⟩ prog_1_method_22_code 1 (some .boolean) ∈ q_big := q_mem 522 (rfl) rfl
theorem k_523 : Cond.methodLink "SlippedStreams" 86 ⟨"SlippedStreams$AddressStream", "advance", "(I)I"⟩ ∈ q_big := q_mem 523 (by decide +kernel) rfl
theorem k_524 : Cond.sameMethod "SlippedStreams$AddressStream" "SlippedStreams$Run" "advance" "(I)I" ∈ q_big := q_mem 524 (by decide +kernel) rfl
theorem k_526 : Cond.selects "SlippedStreams$AddressStream" ⟨"SlippedStreams$AddressStream", "advance", "(I)I"⟩ ⟨"SlippedStreams$Run", "advance", "(I)I"⟩ ∈ q_big := q_mem 526 (by decide +kernel) rfl
theorem k_527 : Cond.instanceMethod ⟨"SlippedStreams$Run", "advance", "(I)I"⟩ ∈ q_big := q_mem 527 (by decide +kernel) rfl
set_option maxRecDepth 100000 in
theorem k_528 : Cond.code ⟨"SlippedStreams$Run", "advance", "(I)I"⟩ prog_7_method_3_code 3 (some .int) ∈ q_big := q_mem 528 (rfl) rfl
theorem k_529 : Cond.methodLink "SlippedStreams$Run" 19 ⟨"SlippedStreams$Run", "step", "()Z"⟩ ∈ q_big := q_mem 529 (by decide +kernel) rfl
theorem k_531 : Cond.sameMethod "SlippedStreams$Run" "SlippedStreams$Run" "step" "()Z" ∈ q_big := q_mem 531 (by decide +kernel) rfl
theorem k_532 : Cond.selects "SlippedStreams$AddressStream" ⟨"SlippedStreams$Run", "step", "()Z"⟩ ⟨"SlippedStreams$AddressStream", "step", "()Z"⟩ ∈ q_big := q_mem 532 (by decide +kernel) rfl
theorem k_533 : Cond.instanceMethod ⟨"SlippedStreams$AddressStream", "step", "()Z"⟩ ∈ q_big := q_mem 533 (by decide +kernel) rfl
set_option maxRecDepth 100000 in
theorem k_534 : Cond.code ⟨"SlippedStreams$AddressStream", "step", "()Z"⟩ prog_2_method_3_code 1 (some .boolean) ∈ q_big := q_mem 534 (rfl) rfl
theorem k_535 : Cond.methodLink "SlippedStreams$AddressStream" 25 ⟨"SlippedStreams$AddressStream", "hasEnded", "()Z"⟩ ∈ q_big := q_mem 535 (by decide +kernel) rfl
theorem k_536 : Cond.sameMethod "SlippedStreams$AddressStream" "SlippedStreams$Run" "hasEnded" "()Z" ∈ q_big := q_mem 536 (by decide +kernel) rfl
theorem k_538 : Cond.selects "SlippedStreams$AddressStream" ⟨"SlippedStreams$AddressStream", "hasEnded", "()Z"⟩ ⟨"SlippedStreams$Run", "hasEnded", "()Z"⟩ ∈ q_big := q_mem 538 (by decide +kernel) rfl
theorem k_539 : Cond.instanceMethod ⟨"SlippedStreams$Run", "hasEnded", "()Z"⟩ ∈ q_big := q_mem 539 (by decide +kernel) rfl
set_option maxRecDepth 100000 in
theorem k_540 : Cond.code ⟨"SlippedStreams$Run", "hasEnded", "()Z"⟩ prog_7_method_4_code 1 (some .boolean) ∈ q_big := q_mem 540 (rfl) rfl
theorem k_541 : Cond.methodLink "SlippedStreams$AddressStream" 41 ⟨"SlippedStreams$AddressStream", "doOwn", "(I)Z"⟩ ∈ q_big := q_mem 541 (by decide +kernel) rfl
theorem k_543 : Cond.instanceMethod ⟨"SlippedStreams$AddressStream", "doOwn", "(I)Z"⟩ ∈ q_big := q_mem 543 (by decide +kernel) rfl
set_option maxRecDepth 100000 in
theorem k_544 : Cond.code ⟨"SlippedStreams$AddressStream", "doOwn", "(I)Z"⟩ prog_2_method_5_code 2 (some .boolean) ∈ q_big := q_mem 544 (rfl) rfl
theorem k_545 : Cond.methodLink "SlippedStreams$AddressStream" 57 ⟨"SlippedStreams$AddressStream", "load", "(I)Z"⟩ ∈ q_big := q_mem 545 (by decide +kernel) rfl
theorem k_547 : Cond.instanceMethod ⟨"SlippedStreams$AddressStream", "load", "(I)Z"⟩ ∈ q_big := q_mem 547 (by decide +kernel) rfl
set_option maxRecDepth 100000 in
theorem k_548 : Cond.code ⟨"SlippedStreams$AddressStream", "load", "(I)Z"⟩ prog_2_method_6_code 3 (some .boolean) ∈ q_big := q_mem 548 (rfl) rfl
theorem k_549 : Cond.methodLink "SlippedStreams$AddressStream" 89 ⟨"SlippedStreams$AddressStream", "wordAddress", "(I)I"⟩ ∈ q_big := q_mem 549 (by decide +kernel) rfl
theorem k_550 : Cond.sameMethod "SlippedStreams$AddressStream" "SlippedStreams$Run" "wordAddress" "(I)I" ∈ q_big := q_mem 550 (by decide +kernel) rfl
theorem k_552 : Cond.selects "SlippedStreams$AddressStream" ⟨"SlippedStreams$AddressStream", "wordAddress", "(I)I"⟩ ⟨"SlippedStreams$Run", "wordAddress", "(I)I"⟩ ∈ q_big := q_mem 552 (by decide +kernel) rfl
theorem k_553 : Cond.instanceMethod ⟨"SlippedStreams$Run", "wordAddress", "(I)I"⟩ ∈ q_big := q_mem 553 (by decide +kernel) rfl
set_option maxRecDepth 100000 in
theorem k_554 : Cond.code ⟨"SlippedStreams$Run", "wordAddress", "(I)I"⟩ prog_7_method_6_code 2 (some .int) ∈ q_big := q_mem 554 (rfl) rfl
theorem k_555 : Cond.methodLink "SlippedStreams$AddressStream" 97 ⟨"SlippedStreams$StoreList", "holds", "(I)Z"⟩ ∈ q_big := q_mem 555 (by decide +kernel) rfl
theorem k_556 : Cond.instanceMethod ⟨"SlippedStreams$StoreList", "holds", "(I)Z"⟩ ∈ q_big := q_mem 556 (by decide +kernel) rfl
theorem k_557 : Cond.selects "SlippedStreams$StoreList" ⟨"SlippedStreams$StoreList", "holds", "(I)Z"⟩ ⟨"SlippedStreams$StoreList", "holds", "(I)Z"⟩ ∈ q_big := q_mem 557 (by decide +kernel) rfl
set_option maxRecDepth 100000 in
theorem k_558 : Cond.code ⟨"SlippedStreams$StoreList", "holds", "(I)Z"⟩ prog_8_method_4_code 3 (some .boolean) ∈ q_big := q_mem 558 (rfl) rfl
theorem k_559 : Cond.methodLink "SlippedStreams$StoreList" 32 ⟨"SlippedStreams$StoreList", "slot", "(I)I"⟩ ∈ q_big := q_mem 559 (by decide +kernel) rfl
theorem k_561 : Cond.instanceMethod ⟨"SlippedStreams$StoreList", "slot", "(I)I"⟩ ∈ q_big := q_mem 561 (by decide +kernel) rfl
set_option maxRecDepth 100000 in
theorem k_562 : Cond.code ⟨"SlippedStreams$StoreList", "slot", "(I)I"⟩ prog_8_method_9_code 2 (some .int) ∈ q_big := q_mem 562 (rfl) rfl
theorem k_563 : Cond.methodLink "SlippedStreams$AddressStream" 86 ⟨"SlippedStreams$AddressStream", "leaveFor", "(I)Z"⟩ ∈ q_big := q_mem 563 (by decide +kernel) rfl
theorem k_564 : Cond.sameMethod "SlippedStreams$AddressStream" "SlippedStreams$Stream" "leaveFor" "(I)Z" ∈ q_big := q_mem 564 (by decide +kernel) rfl
theorem k_566 : Cond.selects "SlippedStreams$AddressStream" ⟨"SlippedStreams$AddressStream", "leaveFor", "(I)Z"⟩ ⟨"SlippedStreams$Stream", "leaveFor", "(I)Z"⟩ ∈ q_big := q_mem 566 (by decide +kernel) rfl
theorem k_567 : Cond.instanceMethod ⟨"SlippedStreams$Stream", "leaveFor", "(I)Z"⟩ ∈ q_big := q_mem 567 (by decide +kernel) rfl
set_option maxRecDepth 100000 in
theorem k_568 : Cond.code ⟨"SlippedStreams$Stream", "leaveFor", "(I)Z"⟩ prog_9_method_3_code 2 (some .boolean) ∈ q_big := q_mem 568 (rfl) rfl
theorem k_569 : Cond.methodLink "SlippedStreams$AddressStream" 60 ⟨"SlippedStreams$AddressStream", "store", "(I)Z"⟩ ∈ q_big := q_mem 569 (by decide +kernel) rfl
theorem k_571 : Cond.instanceMethod ⟨"SlippedStreams$AddressStream", "store", "(I)Z"⟩ ∈ q_big := q_mem 571 (by decide +kernel) rfl
set_option maxRecDepth 100000 in
theorem k_572 : Cond.code ⟨"SlippedStreams$AddressStream", "store", "(I)Z"⟩ prog_2_method_7_code 3 (some .boolean) ∈ q_big := q_mem 572 (rfl) rfl
theorem k_573 : Cond.methodLink "SlippedStreams$AddressStream" 111 ⟨"SlippedStreams$StoreList", "isFull", "()Z"⟩ ∈ q_big := q_mem 573 (by decide +kernel) rfl
theorem k_574 : Cond.instanceMethod ⟨"SlippedStreams$StoreList", "isFull", "()Z"⟩ ∈ q_big := q_mem 574 (by decide +kernel) rfl
theorem k_575 : Cond.selects "SlippedStreams$StoreList" ⟨"SlippedStreams$StoreList", "isFull", "()Z"⟩ ⟨"SlippedStreams$StoreList", "isFull", "()Z"⟩ ∈ q_big := q_mem 575 (by decide +kernel) rfl
set_option maxRecDepth 100000 in
theorem k_576 : Cond.code ⟨"SlippedStreams$StoreList", "isFull", "()Z"⟩ prog_8_method_3_code 1 (some .boolean) ∈ q_big := q_mem 576 (rfl) rfl
theorem k_577 : Cond.methodLink "SlippedStreams$AddressStream" 114 ⟨"SlippedStreams$Program", "isAddressRegister", "(I)Z"⟩ ∈ q_big := q_mem 577 (by decide +kernel) rfl
theorem k_578 : Cond.methodLink "SlippedStreams$AddressStream" 117 ⟨"SlippedStreams$StoreList", "enterWith", "(II)V"⟩ ∈ q_big := q_mem 578 (by decide +kernel) rfl
theorem k_579 : Cond.instanceMethod ⟨"SlippedStreams$StoreList", "enterWith", "(II)V"⟩ ∈ q_big := q_mem 579 (by decide +kernel) rfl
theorem k_580 : Cond.selects "SlippedStreams$StoreList" ⟨"SlippedStreams$StoreList", "enterWith", "(II)V"⟩ ⟨"SlippedStreams$StoreList", "enterWith", "(II)V"⟩ ∈ q_big := q_mem 580 (by decide +kernel) rfl
set_option maxRecDepth 100000 in
theorem k_581 : Cond.code ⟨"SlippedStreams$StoreList", "enterWith", "(II)V"⟩ prog_8_method_6_code 4 none ∈ q_big := q_mem 581 (rfl) rfl
theorem k_582 : Cond.methodLink "SlippedStreams$StoreList" 36 ⟨"SlippedStreams$StoreList", "enter", "(I)V"⟩ ∈ q_big := q_mem 582 (by decide +kernel) rfl
theorem k_583 : Cond.instanceMethod ⟨"SlippedStreams$StoreList", "enter", "(I)V"⟩ ∈ q_big := q_mem 583 (by decide +kernel) rfl
theorem k_584 : Cond.selects "SlippedStreams$StoreList" ⟨"SlippedStreams$StoreList", "enter", "(I)V"⟩ ⟨"SlippedStreams$StoreList", "enter", "(I)V"⟩ ∈ q_big := q_mem 584 (by decide +kernel) rfl
set_option maxRecDepth 100000 in
theorem k_585 : Cond.code ⟨"SlippedStreams$StoreList", "enter", "(I)V"⟩ prog_8_method_5_code 3 none ∈ q_big := q_mem 585 (rfl) rfl
theorem k_586 : Cond.methodLink "SlippedStreams$StoreList" 40 ⟨"SlippedStreams$StoreList", "know", "(II)V"⟩ ∈ q_big := q_mem 586 (by decide +kernel) rfl
theorem k_588 : Cond.instanceMethod ⟨"SlippedStreams$StoreList", "know", "(II)V"⟩ ∈ q_big := q_mem 588 (by decide +kernel) rfl
set_option maxRecDepth 100000 in
theorem k_589 : Cond.code ⟨"SlippedStreams$StoreList", "know", "(II)V"⟩ prog_8_method_8_code 3 none ∈ q_big := q_mem 589 (rfl) rfl
theorem k_590 : Cond.methodLink "SlippedStreams$AddressStream" 127 ⟨"SlippedStreams$Fifo", "take", "()I"⟩ ∈ q_big := q_mem 590 (by decide +kernel) rfl
theorem k_591 : Cond.instanceMethod ⟨"SlippedStreams$Fifo", "take", "()I"⟩ ∈ q_big := q_mem 591 (by decide +kernel) rfl
theorem k_592 : Cond.selects "SlippedStreams$Fifo" ⟨"SlippedStreams$Fifo", "take", "()I"⟩ ⟨"SlippedStreams$Fifo", "take", "()I"⟩ ∈ q_big := q_mem 592 (by decide +kernel) rfl
set_option maxRecDepth 100000 in
theorem k_593 : Cond.code ⟨"SlippedStreams$Fifo", "take", "()I"⟩ prog_3_method_5_code 2 (some .int) ∈ q_big := q_mem 593 (rfl) rfl
theorem k_594 : Cond.methodLink "SlippedStreams$AddressStream" 131 ⟨"SlippedStreams$StoreList", "enter", "(I)V"⟩ ∈ q_big := q_mem 594 (by decide +kernel) rfl
theorem k_595 : Cond.methodLink "SlippedStreams$AddressStream" 73 ⟨"SlippedStreams$Fifo", "hasRoomFor", "(I)Z"⟩ ∈ q_big := q_mem 595 (by decide +kernel) rfl
theorem k_596 : Cond.instanceMethod ⟨"SlippedStreams$Fifo", "hasRoomFor", "(I)Z"⟩ ∈ q_big := q_mem 596 (by decide +kernel) rfl
theorem k_597 : Cond.selects "SlippedStreams$Fifo" ⟨"SlippedStreams$Fifo", "hasRoomFor", "(I)Z"⟩ ⟨"SlippedStreams$Fifo", "hasRoomFor", "(I)Z"⟩ ∈ q_big := q_mem 597 (by decide +kernel) rfl
set_option maxRecDepth 100000 in
theorem k_598 : Cond.code ⟨"SlippedStreams$Fifo", "hasRoomFor", "(I)Z"⟩ prog_3_method_3_code 2 (some .boolean) ∈ q_big := q_mem 598 (rfl) rfl
theorem k_599 : Cond.methodLink "SlippedStreams$AddressStream" 78 ⟨"SlippedStreams$AddressStream", "sendOutcome", "(ILSlippedStreams$Fifo;)Z"⟩ ∈ q_big := q_mem 599 (by decide +kernel) rfl
theorem k_600 : Cond.sameMethod "SlippedStreams$AddressStream" "SlippedStreams$Stream" "sendOutcome" "(ILSlippedStreams$Fifo;)Z" ∈ q_big := q_mem 600 (by decide +kernel) rfl
theorem k_602 : Cond.selects "SlippedStreams$AddressStream" ⟨"SlippedStreams$AddressStream", "sendOutcome", "(ILSlippedStreams$Fifo;)Z"⟩ ⟨"SlippedStreams$Stream", "sendOutcome", "(ILSlippedStreams$Fifo;)Z"⟩ ∈ q_big := q_mem 602 (by decide +kernel) rfl
theorem k_603 : Cond.instanceMethod ⟨"SlippedStreams$Stream", "sendOutcome", "(ILSlippedStreams$Fifo;)Z"⟩ ∈ q_big := q_mem 603 (by decide +kernel) rfl
set_option maxRecDepth 100000 in
theorem k_604 : Cond.code ⟨"SlippedStreams$Stream", "sendOutcome", "(ILSlippedStreams$Fifo;)Z"⟩ prog_9_method_4_code 4 (some .boolean) ∈ q_big := q_mem 604 (rfl) rfl
theorem k_605 : Cond.methodLink "SlippedStreams$Stream" 38 ⟨"SlippedStreams$Stream", "test", "(I)Z"⟩ ∈ q_big := q_mem 605 (by decide +kernel) rfl
theorem k_606 : Cond.sameMethod "SlippedStreams$Stream" "SlippedStreams$Run" "test" "(I)Z" ∈ q_big := q_mem 606 (by decide +kernel) rfl
theorem k_608 : Cond.selects "SlippedStreams$AddressStream" ⟨"SlippedStreams$Stream", "test", "(I)Z"⟩ ⟨"SlippedStreams$Run", "test", "(I)Z"⟩ ∈ q_big := q_mem 608 (by decide +kernel) rfl
theorem k_609 : Cond.selects "SlippedStreams$ValueStream" ⟨"SlippedStreams$Stream", "test", "(I)Z"⟩ ⟨"SlippedStreams$Run", "test", "(I)Z"⟩ ∈ q_big := q_mem 609 (by decide +kernel) rfl
theorem k_610 : Cond.instanceMethod ⟨"SlippedStreams$Run", "test", "(I)Z"⟩ ∈ q_big := q_mem 610 (by decide +kernel) rfl
set_option maxRecDepth 100000 in
theorem k_611 : Cond.code ⟨"SlippedStreams$Run", "test", "(I)Z"⟩ prog_7_method_8_code 4 (some .boolean) ∈ q_big := q_mem 611 (rfl) rfl
theorem k_612 : Cond.methodLink "SlippedStreams$Stream" 42 ⟨"SlippedStreams$Fifo", "put", "(I)V"⟩ ∈ q_big := q_mem 612 (by decide +kernel) rfl
theorem k_613 : Cond.instanceMethod ⟨"SlippedStreams$Fifo", "put", "(I)V"⟩ ∈ q_big := q_mem 613 (by decide +kernel) rfl
theorem k_614 : Cond.selects "SlippedStreams$Fifo" ⟨"SlippedStreams$Fifo", "put", "(I)V"⟩ ⟨"SlippedStreams$Fifo", "put", "(I)V"⟩ ∈ q_big := q_mem 614 (by decide +kernel) rfl
set_option maxRecDepth 100000 in
theorem k_615 : Cond.code ⟨"SlippedStreams$Fifo", "put", "(I)V"⟩ prog_3_method_4_code 3 none ∈ q_big := q_mem 615 (rfl) rfl
theorem k_616 : Cond.methodLink "SlippedStreams$Stream" 48 ⟨"SlippedStreams$Stream", "behind", "(IZ)I"⟩ ∈ q_big := q_mem 616 (by decide +kernel) rfl
theorem k_617 : Cond.sameMethod "SlippedStreams$Stream" "SlippedStreams$Run" "behind" "(IZ)I" ∈ q_big := q_mem 617 (by decide +kernel) rfl
theorem k_619 : Cond.selects "SlippedStreams$AddressStream" ⟨"SlippedStreams$Stream", "behind", "(IZ)I"⟩ ⟨"SlippedStreams$Run", "behind", "(IZ)I"⟩ ∈ q_big := q_mem 619 (by decide +kernel) rfl
theorem k_620 : Cond.selects "SlippedStreams$ValueStream" ⟨"SlippedStreams$Stream", "behind", "(IZ)I"⟩ ⟨"SlippedStreams$Run", "behind", "(IZ)I"⟩ ∈ q_big := q_mem 620 (by decide +kernel) rfl
theorem k_621 : Cond.instanceMethod ⟨"SlippedStreams$Run", "behind", "(IZ)I"⟩ ∈ q_big := q_mem 621 (by decide +kernel) rfl
set_option maxRecDepth 100000 in
theorem k_622 : Cond.code ⟨"SlippedStreams$Run", "behind", "(IZ)I"⟩ prog_7_method_7_code 3 (some .int) ∈ q_big := q_mem 622 (rfl) rfl
theorem k_623 : Cond.methodLink "SlippedStreams$Stream" 52 ⟨"SlippedStreams$Stream", "leaveFor", "(I)Z"⟩ ∈ q_big := q_mem 623 (by decide +kernel) rfl
theorem k_624 : Cond.methodLink "SlippedStreams$AddressStream" 82 ⟨"SlippedStreams$AddressStream", "compute", "(I)V"⟩ ∈ q_big := q_mem 624 (by decide +kernel) rfl
theorem k_625 : Cond.sameMethod "SlippedStreams$AddressStream" "SlippedStreams$Run" "compute" "(I)V" ∈ q_big := q_mem 625 (by decide +kernel) rfl
theorem k_627 : Cond.selects "SlippedStreams$AddressStream" ⟨"SlippedStreams$AddressStream", "compute", "(I)V"⟩ ⟨"SlippedStreams$Run", "compute", "(I)V"⟩ ∈ q_big := q_mem 627 (by decide +kernel) rfl
theorem k_628 : Cond.instanceMethod ⟨"SlippedStreams$Run", "compute", "(I)V"⟩ ∈ q_big := q_mem 628 (by decide +kernel) rfl
set_option maxRecDepth 100000 in
theorem k_629 : Cond.code ⟨"SlippedStreams$Run", "compute", "(I)V"⟩ prog_7_method_9_code 2 none ∈ q_big := q_mem 629 (rfl) rfl
theorem k_630 : Cond.methodLink "SlippedStreams$Run" 50 ⟨"SlippedStreams$Run", "combined", "(I)I"⟩ ∈ q_big := q_mem 630 (by decide +kernel) rfl
theorem k_632 : Cond.instanceMethod ⟨"SlippedStreams$Run", "combined", "(I)I"⟩ ∈ q_big := q_mem 632 (by decide +kernel) rfl
set_option maxRecDepth 100000 in
theorem k_633 : Cond.code ⟨"SlippedStreams$Run", "combined", "(I)I"⟩ prog_7_method_10_code 4 (some .int) ∈ q_big := q_mem 633 (rfl) rfl
theorem k_634 : Cond.methodLink "SlippedStreams$AddressStream" 45 ⟨"SlippedStreams$AddressStream", "serve", "(I)Z"⟩ ∈ q_big := q_mem 634 (by decide +kernel) rfl
theorem k_636 : Cond.instanceMethod ⟨"SlippedStreams$AddressStream", "serve", "(I)Z"⟩ ∈ q_big := q_mem 636 (by decide +kernel) rfl
set_option maxRecDepth 100000 in
theorem k_637 : Cond.code ⟨"SlippedStreams$AddressStream", "serve", "(I)Z"⟩ prog_2_method_8_code 3 (some .boolean) ∈ q_big := q_mem 637 (rfl) rfl
theorem k_638 : Cond.methodLink "SlippedStreams$AddressStream" 134 ⟨"SlippedStreams$AddressStream", "sendLoad", "(I)Z"⟩ ∈ q_big := q_mem 638 (by decide +kernel) rfl
theorem k_640 : Cond.instanceMethod ⟨"SlippedStreams$AddressStream", "sendLoad", "(I)Z"⟩ ∈ q_big := q_mem 640 (by decide +kernel) rfl
set_option maxRecDepth 100000 in
theorem k_641 : Cond.code ⟨"SlippedStreams$AddressStream", "sendLoad", "(I)Z"⟩ prog_2_method_9_code 3 (some .boolean) ∈ q_big := q_mem 641 (rfl) rfl
theorem k_642 : Cond.methodLink "SlippedStreams$AddressStream" 161 ⟨"SlippedStreams$Fifo", "put", "(I)V"⟩ ∈ q_big := q_mem 642 (by decide +kernel) rfl
theorem k_643 : Cond.methodLink "SlippedStreams$AddressStream" 137 ⟨"SlippedStreams$AddressStream", "isAtOutcome", "()Z"⟩ ∈ q_big := q_mem 643 (by decide +kernel) rfl
theorem k_644 : Cond.instanceMethod ⟨"SlippedStreams$AddressStream", "isAtOutcome", "()Z"⟩ ∈ q_big := q_mem 644 (by decide +kernel) rfl
theorem k_645 : Cond.selects "SlippedStreams$AddressStream" ⟨"SlippedStreams$AddressStream", "isAtOutcome", "()Z"⟩ ⟨"SlippedStreams$AddressStream", "isAtOutcome", "()Z"⟩ ∈ q_big := q_mem 645 (by decide +kernel) rfl
set_option maxRecDepth 100000 in
theorem k_646 : Cond.code ⟨"SlippedStreams$AddressStream", "isAtOutcome", "()Z"⟩ prog_2_method_4_code 1 (some .boolean) ∈ q_big := q_mem 646 (rfl) rfl
theorem k_647 : Cond.methodLink "SlippedStreams$AddressStream" 48 ⟨"SlippedStreams$Program", "isBranch", "(I)Z"⟩ ∈ q_big := q_mem 647 (by decide +kernel) rfl
theorem k_648 : Cond.methodLink "SlippedStreams$AddressStream" 143 ⟨"SlippedStreams$AddressStream", "followOutcome", "(ILSlippedStreams$Fifo;)Z"⟩ ∈ q_big := q_mem 648 (by decide +kernel) rfl
theorem k_649 : Cond.sameMethod "SlippedStreams$AddressStream" "SlippedStreams$Stream" "followOutcome" "(ILSlippedStreams$Fifo;)Z" ∈ q_big := q_mem 649 (by decide +kernel) rfl
theorem k_651 : Cond.selects "SlippedStreams$AddressStream" ⟨"SlippedStreams$AddressStream", "followOutcome", "(ILSlippedStreams$Fifo;)Z"⟩ ⟨"SlippedStreams$Stream", "followOutcome", "(ILSlippedStreams$Fifo;)Z"⟩ ∈ q_big := q_mem 651 (by decide +kernel) rfl
theorem k_652 : Cond.instanceMethod ⟨"SlippedStreams$Stream", "followOutcome", "(ILSlippedStreams$Fifo;)Z"⟩ ∈ q_big := q_mem 652 (by decide +kernel) rfl
set_option maxRecDepth 100000 in
theorem k_653 : Cond.code ⟨"SlippedStreams$Stream", "followOutcome", "(ILSlippedStreams$Fifo;)Z"⟩ prog_9_method_5_code 3 (some .boolean) ∈ q_big := q_mem 653 (rfl) rfl
theorem k_654 : Cond.methodLink "SlippedStreams$Stream" 58 ⟨"SlippedStreams$Fifo", "take", "()I"⟩ ∈ q_big := q_mem 654 (by decide +kernel) rfl
theorem k_655 : Cond.methodLink "SlippedStreams$AddressStream" 152 ⟨"SlippedStreams$AddressStream", "hand", "(I)V"⟩ ∈ q_big := q_mem 655 (by decide +kernel) rfl
theorem k_657 : Cond.instanceMethod ⟨"SlippedStreams$AddressStream", "hand", "(I)V"⟩ ∈ q_big := q_mem 657 (by decide +kernel) rfl
set_option maxRecDepth 100000 in
theorem k_658 : Cond.code ⟨"SlippedStreams$AddressStream", "hand", "(I)V"⟩ prog_2_method_10_code 2 none ∈ q_big := q_mem 658 (rfl) rfl
theorem k_659 : Cond.selects "SlippedStreams$PlainRun" ⟨"SlippedStreams$Run", "step", "()Z"⟩ ⟨"SlippedStreams$PlainRun", "step", "()Z"⟩ ∈ q_big := q_mem 659 (by decide +kernel) rfl
theorem k_660 : Cond.instanceMethod ⟨"SlippedStreams$PlainRun", "step", "()Z"⟩ ∈ q_big := q_mem 660 (by decide +kernel) rfl
set_option maxRecDepth 100000 in
theorem k_661 : Cond.code ⟨"SlippedStreams$PlainRun", "step", "()Z"⟩ prog_5_method_3_code 2 (some .boolean) ∈ q_big := q_mem 661 (rfl) rfl
theorem k_662 : Cond.methodLink "SlippedStreams$PlainRun" 46 ⟨"SlippedStreams$PlainRun", "hasEnded", "()Z"⟩ ∈ q_big := q_mem 662 (by decide +kernel) rfl
theorem k_663 : Cond.sameMethod "SlippedStreams$PlainRun" "SlippedStreams$Run" "hasEnded" "()Z" ∈ q_big := q_mem 663 (by decide +kernel) rfl
theorem k_664 : Cond.selects "SlippedStreams$PlainRun" ⟨"SlippedStreams$PlainRun", "hasEnded", "()Z"⟩ ⟨"SlippedStreams$Run", "hasEnded", "()Z"⟩ ∈ q_big := q_mem 664 (by decide +kernel) rfl
theorem k_665 : Cond.methodLink "SlippedStreams$PlainRun" 54 ⟨"SlippedStreams$Program", "isBranch", "(I)Z"⟩ ∈ q_big := q_mem 665 (by decide +kernel) rfl
theorem k_666 : Cond.methodLink "SlippedStreams$PlainRun" 60 ⟨"SlippedStreams$PlainRun", "test", "(I)Z"⟩ ∈ q_big := q_mem 666 (by decide +kernel) rfl
theorem k_667 : Cond.sameMethod "SlippedStreams$PlainRun" "SlippedStreams$Run" "test" "(I)Z" ∈ q_big := q_mem 667 (by decide +kernel) rfl
theorem k_668 : Cond.selects "SlippedStreams$PlainRun" ⟨"SlippedStreams$PlainRun", "test", "(I)Z"⟩ ⟨"SlippedStreams$Run", "test", "(I)Z"⟩ ∈ q_big := q_mem 668 (by decide +kernel) rfl
theorem k_669 : Cond.methodLink "SlippedStreams$PlainRun" 63 ⟨"SlippedStreams$PlainRun", "behind", "(IZ)I"⟩ ∈ q_big := q_mem 669 (by decide +kernel) rfl
theorem k_670 : Cond.sameMethod "SlippedStreams$PlainRun" "SlippedStreams$Run" "behind" "(IZ)I" ∈ q_big := q_mem 670 (by decide +kernel) rfl
theorem k_671 : Cond.selects "SlippedStreams$PlainRun" ⟨"SlippedStreams$PlainRun", "behind", "(IZ)I"⟩ ⟨"SlippedStreams$Run", "behind", "(IZ)I"⟩ ∈ q_big := q_mem 671 (by decide +kernel) rfl
theorem k_672 : Cond.methodLink "SlippedStreams$PlainRun" 67 ⟨"SlippedStreams$PlainRun", "perform", "(I)V"⟩ ∈ q_big := q_mem 672 (by decide +kernel) rfl
theorem k_674 : Cond.instanceMethod ⟨"SlippedStreams$PlainRun", "perform", "(I)V"⟩ ∈ q_big := q_mem 674 (by decide +kernel) rfl
set_option maxRecDepth 100000 in
theorem k_675 : Cond.code ⟨"SlippedStreams$PlainRun", "perform", "(I)V"⟩ prog_5_method_4_code 3 none ∈ q_big := q_mem 675 (rfl) rfl
theorem k_676 : Cond.methodLink "SlippedStreams$PlainRun" 77 ⟨"SlippedStreams$PlainRun", "wordAddress", "(I)I"⟩ ∈ q_big := q_mem 676 (by decide +kernel) rfl
theorem k_677 : Cond.sameMethod "SlippedStreams$PlainRun" "SlippedStreams$Run" "wordAddress" "(I)I" ∈ q_big := q_mem 677 (by decide +kernel) rfl
theorem k_678 : Cond.selects "SlippedStreams$PlainRun" ⟨"SlippedStreams$PlainRun", "wordAddress", "(I)I"⟩ ⟨"SlippedStreams$Run", "wordAddress", "(I)I"⟩ ∈ q_big := q_mem 678 (by decide +kernel) rfl
theorem k_679 : Cond.methodLink "SlippedStreams$PlainRun" 81 ⟨"SlippedStreams$Written", "write", "(I)V"⟩ ∈ q_big := q_mem 679 (by decide +kernel) rfl
theorem k_680 : Cond.instanceMethod ⟨"SlippedStreams$Written", "write", "(I)V"⟩ ∈ q_big := q_mem 680 (by decide +kernel) rfl
theorem k_681 : Cond.selects "SlippedStreams$Written" ⟨"SlippedStreams$Written", "write", "(I)V"⟩ ⟨"SlippedStreams$Written", "write", "(I)V"⟩ ∈ q_big := q_mem 681 (by decide +kernel) rfl
set_option maxRecDepth 100000 in
theorem k_682 : Cond.code ⟨"SlippedStreams$Written", "write", "(I)V"⟩ prog_11_method_3_code 2 none ∈ q_big := q_mem 682 (rfl) rfl
theorem k_683 : Cond.methodLink "SlippedStreams$PlainRun" 84 ⟨"SlippedStreams$PlainRun", "compute", "(I)V"⟩ ∈ q_big := q_mem 683 (by decide +kernel) rfl
theorem k_684 : Cond.sameMethod "SlippedStreams$PlainRun" "SlippedStreams$Run" "compute" "(I)V" ∈ q_big := q_mem 684 (by decide +kernel) rfl
theorem k_685 : Cond.selects "SlippedStreams$PlainRun" ⟨"SlippedStreams$PlainRun", "compute", "(I)V"⟩ ⟨"SlippedStreams$Run", "compute", "(I)V"⟩ ∈ q_big := q_mem 685 (by decide +kernel) rfl
theorem k_686 : Cond.selects "SlippedStreams$ValueStream" ⟨"SlippedStreams$Run", "step", "()Z"⟩ ⟨"SlippedStreams$ValueStream", "step", "()Z"⟩ ∈ q_big := q_mem 686 (by decide +kernel) rfl
theorem k_687 : Cond.instanceMethod ⟨"SlippedStreams$ValueStream", "step", "()Z"⟩ ∈ q_big := q_mem 687 (by decide +kernel) rfl
set_option maxRecDepth 100000 in
theorem k_688 : Cond.code ⟨"SlippedStreams$ValueStream", "step", "()Z"⟩ prog_10_method_3_code 1 (some .boolean) ∈ q_big := q_mem 688 (rfl) rfl
theorem k_689 : Cond.methodLink "SlippedStreams$ValueStream" 32 ⟨"SlippedStreams$ValueStream", "hasEnded", "()Z"⟩ ∈ q_big := q_mem 689 (by decide +kernel) rfl
theorem k_690 : Cond.sameMethod "SlippedStreams$ValueStream" "SlippedStreams$Run" "hasEnded" "()Z" ∈ q_big := q_mem 690 (by decide +kernel) rfl
theorem k_691 : Cond.selects "SlippedStreams$ValueStream" ⟨"SlippedStreams$ValueStream", "hasEnded", "()Z"⟩ ⟨"SlippedStreams$Run", "hasEnded", "()Z"⟩ ∈ q_big := q_mem 691 (by decide +kernel) rfl
theorem k_692 : Cond.methodLink "SlippedStreams$ValueStream" 51 ⟨"SlippedStreams$ValueStream", "receiveLoad", "(I)Z"⟩ ∈ q_big := q_mem 692 (by decide +kernel) rfl
theorem k_694 : Cond.instanceMethod ⟨"SlippedStreams$ValueStream", "receiveLoad", "(I)Z"⟩ ∈ q_big := q_mem 694 (by decide +kernel) rfl
set_option maxRecDepth 100000 in
theorem k_695 : Cond.code ⟨"SlippedStreams$ValueStream", "receiveLoad", "(I)Z"⟩ prog_10_method_4_code 2 (some .boolean) ∈ q_big := q_mem 695 (rfl) rfl
theorem k_696 : Cond.methodLink "SlippedStreams$ValueStream" 92 ⟨"SlippedStreams$Fifo", "take", "()I"⟩ ∈ q_big := q_mem 696 (by decide +kernel) rfl
theorem k_697 : Cond.methodLink "SlippedStreams$ValueStream" 96 ⟨"SlippedStreams$ValueStream", "leaveFor", "(I)Z"⟩ ∈ q_big := q_mem 697 (by decide +kernel) rfl
theorem k_698 : Cond.sameMethod "SlippedStreams$ValueStream" "SlippedStreams$Stream" "leaveFor" "(I)Z" ∈ q_big := q_mem 698 (by decide +kernel) rfl
theorem k_699 : Cond.selects "SlippedStreams$ValueStream" ⟨"SlippedStreams$ValueStream", "leaveFor", "(I)Z"⟩ ⟨"SlippedStreams$Stream", "leaveFor", "(I)Z"⟩ ∈ q_big := q_mem 699 (by decide +kernel) rfl
theorem k_700 : Cond.methodLink "SlippedStreams$ValueStream" 55 ⟨"SlippedStreams$ValueStream", "doOwn", "(I)Z"⟩ ∈ q_big := q_mem 700 (by decide +kernel) rfl
theorem k_702 : Cond.instanceMethod ⟨"SlippedStreams$ValueStream", "doOwn", "(I)Z"⟩ ∈ q_big := q_mem 702 (by decide +kernel) rfl
set_option maxRecDepth 100000 in
theorem k_703 : Cond.code ⟨"SlippedStreams$ValueStream", "doOwn", "(I)Z"⟩ prog_10_method_5_code 3 (some .boolean) ∈ q_big := q_mem 703 (rfl) rfl
theorem k_704 : Cond.methodLink "SlippedStreams$ValueStream" 58 ⟨"SlippedStreams$Program", "isBranch", "(I)Z"⟩ ∈ q_big := q_mem 704 (by decide +kernel) rfl
theorem k_705 : Cond.methodLink "SlippedStreams$ValueStream" 108 ⟨"SlippedStreams$Fifo", "hasRoomFor", "(I)Z"⟩ ∈ q_big := q_mem 705 (by decide +kernel) rfl
theorem k_706 : Cond.methodLink "SlippedStreams$ValueStream" 114 ⟨"SlippedStreams$ValueStream", "receive", "(I)V"⟩ ∈ q_big := q_mem 706 (by decide +kernel) rfl
theorem k_708 : Cond.instanceMethod ⟨"SlippedStreams$ValueStream", "receive", "(I)V"⟩ ∈ q_big := q_mem 708 (by decide +kernel) rfl
set_option maxRecDepth 100000 in
theorem k_709 : Cond.code ⟨"SlippedStreams$ValueStream", "receive", "(I)V"⟩ prog_10_method_6_code 2 none ∈ q_big := q_mem 709 (rfl) rfl
theorem k_710 : Cond.methodLink "SlippedStreams$ValueStream" 121 ⟨"SlippedStreams$ValueStream", "sendOutcome", "(ILSlippedStreams$Fifo;)Z"⟩ ∈ q_big := q_mem 710 (by decide +kernel) rfl
theorem k_711 : Cond.sameMethod "SlippedStreams$ValueStream" "SlippedStreams$Stream" "sendOutcome" "(ILSlippedStreams$Fifo;)Z" ∈ q_big := q_mem 711 (by decide +kernel) rfl
theorem k_712 : Cond.selects "SlippedStreams$ValueStream" ⟨"SlippedStreams$ValueStream", "sendOutcome", "(ILSlippedStreams$Fifo;)Z"⟩ ⟨"SlippedStreams$Stream", "sendOutcome", "(ILSlippedStreams$Fifo;)Z"⟩ ∈ q_big := q_mem 712 (by decide +kernel) rfl
theorem k_713 : Cond.methodLink "SlippedStreams$ValueStream" 124 ⟨"SlippedStreams$Written", "write", "(I)V"⟩ ∈ q_big := q_mem 713 (by decide +kernel) rfl
theorem k_714 : Cond.methodLink "SlippedStreams$ValueStream" 127 ⟨"SlippedStreams$ValueStream", "compute", "(I)V"⟩ ∈ q_big := q_mem 714 (by decide +kernel) rfl
theorem k_715 : Cond.sameMethod "SlippedStreams$ValueStream" "SlippedStreams$Run" "compute" "(I)V" ∈ q_big := q_mem 715 (by decide +kernel) rfl
theorem k_716 : Cond.selects "SlippedStreams$ValueStream" ⟨"SlippedStreams$ValueStream", "compute", "(I)V"⟩ ⟨"SlippedStreams$Run", "compute", "(I)V"⟩ ∈ q_big := q_mem 716 (by decide +kernel) rfl
theorem k_717 : Cond.methodLink "SlippedStreams$ValueStream" 71 ⟨"SlippedStreams$ValueStream", "followOutcome", "(ILSlippedStreams$Fifo;)Z"⟩ ∈ q_big := q_mem 717 (by decide +kernel) rfl
theorem k_718 : Cond.sameMethod "SlippedStreams$ValueStream" "SlippedStreams$Stream" "followOutcome" "(ILSlippedStreams$Fifo;)Z" ∈ q_big := q_mem 718 (by decide +kernel) rfl
theorem k_719 : Cond.selects "SlippedStreams$ValueStream" ⟨"SlippedStreams$ValueStream", "followOutcome", "(ILSlippedStreams$Fifo;)Z"⟩ ⟨"SlippedStreams$Stream", "followOutcome", "(ILSlippedStreams$Fifo;)Z"⟩ ∈ q_big := q_mem 719 (by decide +kernel) rfl
theorem k_720 : Cond.methodLink "SlippedStreams$ValueStream" 75 ⟨"SlippedStreams$ValueStream", "giveStored", "(I)Z"⟩ ∈ q_big := q_mem 720 (by decide +kernel) rfl
theorem k_722 : Cond.instanceMethod ⟨"SlippedStreams$ValueStream", "giveStored", "(I)Z"⟩ ∈ q_big := q_mem 722 (by decide +kernel) rfl
set_option maxRecDepth 100000 in
theorem k_723 : Cond.code ⟨"SlippedStreams$ValueStream", "giveStored", "(I)Z"⟩ prog_10_method_7_code 3 (some .boolean) ∈ q_big := q_mem 723 (rfl) rfl
theorem k_724 : Cond.methodLink "SlippedStreams$ValueStream" 134 ⟨"SlippedStreams$StoreList", "give", "(I)Z"⟩ ∈ q_big := q_mem 724 (by decide +kernel) rfl
theorem k_725 : Cond.instanceMethod ⟨"SlippedStreams$StoreList", "give", "(I)Z"⟩ ∈ q_big := q_mem 725 (by decide +kernel) rfl
theorem k_726 : Cond.selects "SlippedStreams$StoreList" ⟨"SlippedStreams$StoreList", "give", "(I)Z"⟩ ⟨"SlippedStreams$StoreList", "give", "(I)Z"⟩ ∈ q_big := q_mem 726 (by decide +kernel) rfl
set_option maxRecDepth 100000 in
theorem k_727 : Cond.code ⟨"SlippedStreams$StoreList", "give", "(I)Z"⟩ prog_8_method_7_code 2 (some .boolean) ∈ q_big := q_mem 727 (rfl) rfl
theorem k_728 : Cond.methodLink "SlippedStreams$ValueStream" 142 ⟨"SlippedStreams$Fifo", "put", "(I)V"⟩ ∈ q_big := q_mem 728 (by decide +kernel) rfl
theorem k_729 : Cond.methodLink "SlippedStreams" 89 ⟨"SlippedStreams", "noteLoss", "()V"⟩ ∈ q_big := q_mem 729 (by decide +kernel) rfl
theorem k_731 : Cond.instanceMethod ⟨"SlippedStreams", "noteLoss", "()V"⟩ ∈ q_big := q_mem 731 (by decide +kernel) rfl
set_option maxRecDepth 100000 in
theorem k_732 : Cond.code ⟨"SlippedStreams", "noteLoss", "()V"⟩ prog_1_method_21_code 1 none ∈ q_big := q_mem 732 (rfl) rfl
theorem k_733 : Cond.methodLink "SlippedStreams" 174 ⟨"SlippedStreams$AddressStream", "isAtOutcome", "()Z"⟩ ∈ q_big := q_mem 733 (by decide +kernel) rfl
theorem k_738 : Cond.methodLink "SlippedStreams" 92 ⟨"SlippedStreams$ValueStream", "advance", "(I)I"⟩ ∈ q_big := q_mem 738 (by decide +kernel) rfl
theorem k_739 : Cond.sameMethod "SlippedStreams$ValueStream" "SlippedStreams$Run" "advance" "(I)I" ∈ q_big := q_mem 739 (by decide +kernel) rfl
theorem k_740 : Cond.selects "SlippedStreams$ValueStream" ⟨"SlippedStreams$ValueStream", "advance", "(I)I"⟩ ⟨"SlippedStreams$Run", "advance", "(I)I"⟩ ∈ q_big := q_mem 740 (by decide +kernel) rfl
theorem k_745 : Cond.methodLink "SlippedStreams" 93 ⟨"SlippedStreams$AddressStream", "step", "()Z"⟩ ∈ q_big := q_mem 745 (by decide +kernel) rfl
theorem k_746 : Cond.methodLink "SlippedStreams" 97 ⟨"SlippedStreams$ValueStream", "step", "()Z"⟩ ∈ q_big := q_mem 746 (by decide +kernel) rfl
theorem k_751 : Cond.methodLink "SlippedStreams" 98 ⟨"SlippedStreams$AddressStream", "position", "()I"⟩ ∈ q_big := q_mem 751 (by decide +kernel) rfl
theorem k_752 : Cond.sameMethod "SlippedStreams$AddressStream" "SlippedStreams$Run" "position" "()I" ∈ q_big := q_mem 752 (by decide +kernel) rfl
theorem k_754 : Cond.selects "SlippedStreams$AddressStream" ⟨"SlippedStreams$AddressStream", "position", "()I"⟩ ⟨"SlippedStreams$Run", "position", "()I"⟩ ∈ q_big := q_mem 754 (by decide +kernel) rfl
theorem k_755 : Cond.instanceMethod ⟨"SlippedStreams$Run", "position", "()I"⟩ ∈ q_big := q_mem 755 (by decide +kernel) rfl
set_option maxRecDepth 100000 in
theorem k_756 : Cond.code ⟨"SlippedStreams$Run", "position", "()I"⟩ prog_7_method_5_code 1 (some .int) ∈ q_big := q_mem 756 (rfl) rfl
theorem k_757 : Cond.methodLink "SlippedStreams$Run" 32 ⟨"java/lang/Math", "min", "(II)I"⟩ ∈ q_big := q_mem 757 (by decide +kernel) rfl
theorem k_758 : Cond.static ⟨"java/lang/Math", "min", "(II)I"⟩ ∈ q_big := q_mem 758 (by decide +kernel) rfl
set_option maxRecDepth 100000 in
theorem k_759 : Cond.code ⟨"java/lang/Math", "min", "(II)I"⟩ prog_15_method_69_code 2 (some .int) ∈ q_big := q_mem 759 (rfl) rfl
theorem k_760 : Cond.methodLink "SlippedStreams" 102 ⟨"SlippedStreams$ValueStream", "position", "()I"⟩ ∈ q_big := q_mem 760 (by decide +kernel) rfl
theorem k_761 : Cond.sameMethod "SlippedStreams$ValueStream" "SlippedStreams$Run" "position" "()I" ∈ q_big := q_mem 761 (by decide +kernel) rfl
theorem k_762 : Cond.selects "SlippedStreams$ValueStream" ⟨"SlippedStreams$ValueStream", "position", "()I"⟩ ⟨"SlippedStreams$Run", "position", "()I"⟩ ∈ q_big := q_mem 762 (by decide +kernel) rfl
theorem k_763 : Cond.methodLink "SlippedStreams" 103 ⟨"SlippedStreams$PlainRun", "position", "()I"⟩ ∈ q_big := q_mem 763 (by decide +kernel) rfl
theorem k_764 : Cond.sameMethod "SlippedStreams$PlainRun" "SlippedStreams$Run" "position" "()I" ∈ q_big := q_mem 764 (by decide +kernel) rfl
theorem k_765 : Cond.selects "SlippedStreams$PlainRun" ⟨"SlippedStreams$PlainRun", "position", "()I"⟩ ⟨"SlippedStreams$Run", "position", "()I"⟩ ∈ q_big := q_mem 765 (by decide +kernel) rfl
theorem k_778 : Cond.methodLink "SlippedStreams" 134 ⟨"SlippedStreams", "isRegister", "(I)Z"⟩ ∈ q_big := q_mem 778 (by decide +kernel) rfl
theorem k_779 : Cond.methodLink "SlippedStreams" 140 ⟨"SlippedStreams$Program", "isAddressRegister", "(I)Z"⟩ ∈ q_big := q_mem 779 (by decide +kernel) rfl
theorem k_792 : Cond.methodLink "SlippedStreams" 152 ⟨"SlippedStreams$PlainRun", "advance", "(I)I"⟩ ∈ q_big := q_mem 792 (by decide +kernel) rfl
theorem k_793 : Cond.sameMethod "SlippedStreams$PlainRun" "SlippedStreams$Run" "advance" "(I)I" ∈ q_big := q_mem 793 (by decide +kernel) rfl
theorem k_794 : Cond.selects "SlippedStreams$PlainRun" ⟨"SlippedStreams$PlainRun", "advance", "(I)I"⟩ ⟨"SlippedStreams$Run", "advance", "(I)I"⟩ ∈ q_big := q_mem 794 (by decide +kernel) rfl
theorem k_803 : Cond.methodLink "SlippedStreams" 163 ⟨"SlippedStreams$Written", "thing", "(I)I"⟩ ∈ q_big := q_mem 803 (by decide +kernel) rfl
theorem k_804 : Cond.instanceMethod ⟨"SlippedStreams$Written", "thing", "(I)I"⟩ ∈ q_big := q_mem 804 (by decide +kernel) rfl
theorem k_805 : Cond.selects "SlippedStreams$Written" ⟨"SlippedStreams$Written", "thing", "(I)I"⟩ ⟨"SlippedStreams$Written", "thing", "(I)I"⟩ ∈ q_big := q_mem 805 (by decide +kernel) rfl
set_option maxRecDepth 100000 in
theorem k_806 : Cond.code ⟨"SlippedStreams$Written", "thing", "(I)I"⟩ prog_11_method_4_code 2 (some .int) ∈ q_big := q_mem 806 (rfl) rfl
theorem k_813 : Cond.fieldLink "SlippedStreamsModel" 62 "SlippedStreamsModel" "count" "I" ∈ q_big := q_mem 813 (by decide +kernel) rfl
theorem k_814 : Cond.fieldLink "SlippedStreamsModel" 7 "SlippedStreamsModel" "kinds" "[I" ∈ q_big := q_mem 814 (by decide +kernel) rfl
theorem k_815 : Cond.fieldLink "SlippedStreamsModel" 13 "SlippedStreamsModel" "as" "[I" ∈ q_big := q_mem 815 (by decide +kernel) rfl
theorem k_816 : Cond.fieldLink "SlippedStreamsModel" 16 "SlippedStreamsModel" "bs" "[I" ∈ q_big := q_mem 816 (by decide +kernel) rfl
theorem k_817 : Cond.fieldLink "SlippedStreamsModel" 19 "SlippedStreamsModel" "cs" "[I" ∈ q_big := q_mem 817 (by decide +kernel) rfl
theorem k_818 : Cond.fieldLink "SlippedStreamsModel" 76 "SlippedStreamsModel" "first" "I" ∈ q_big := q_mem 818 (by decide +kernel) rfl
theorem k_819 : Cond.fieldLink "SlippedStreamsModel" 79 "SlippedStreamsModel" "step" "I" ∈ q_big := q_mem 819 (by decide +kernel) rfl
theorem k_820 : Cond.fieldLink "SlippedStreamsModel" 22 "SlippedStreamsModel" "isAddress" "[Z" ∈ q_big := q_mem 820 (by decide +kernel) rfl
theorem k_821 : Cond.fieldLink "SlippedStreamsModel" 26 "SlippedStreamsModel" "registers" "[I" ∈ q_big := q_mem 821 (by decide +kernel) rfl
theorem k_822 : Cond.fieldLink "SlippedStreamsModel" 29 "SlippedStreamsModel" "places" "[I" ∈ q_big := q_mem 822 (by decide +kernel) rfl
theorem k_823 : Cond.fieldLink "SlippedStreamsModel" 32 "SlippedStreamsModel" "behind" "[I" ∈ q_big := q_mem 823 (by decide +kernel) rfl
theorem k_824 : Cond.fieldLink "SlippedStreamsModel" 85 "SlippedStreamsModel" "sent" "Z" ∈ q_big := q_mem 824 (by decide +kernel) rfl
theorem k_825 : Cond.fieldLink "SlippedStreamsModel" 35 "SlippedStreamsModel" "memory" "[I" ∈ q_big := q_mem 825 (by decide +kernel) rfl
theorem k_826 : Cond.fieldLink "SlippedStreamsModel" 89 "SlippedStreamsModel" "lost" "I" ∈ q_big := q_mem 826 (by decide +kernel) rfl
theorem k_827 : Cond.fieldLink "SlippedStreamsModel" 151 "SlippedStreamsModel" "starved" "Z" ∈ q_big := q_mem 827 (by decide +kernel) rfl
theorem k_828 : Cond.fieldLink "SlippedStreamsModel" 38 "SlippedStreamsModel" "queues" "[I" ∈ q_big := q_mem 828 (by decide +kernel) rfl
theorem k_829 : Cond.fieldLink "SlippedStreamsModel" 41 "SlippedStreamsModel" "lengths" "[I" ∈ q_big := q_mem 829 (by decide +kernel) rfl
theorem k_830 : Cond.fieldLink "SlippedStreamsModel" 82 "SlippedStreamsModel" "stores" "I" ∈ q_big := q_mem 830 (by decide +kernel) rfl
theorem k_831 : Cond.fieldLink "SlippedStreamsModel" 44 "SlippedStreamsModel" "storeAt" "[I" ∈ q_big := q_mem 831 (by decide +kernel) rfl
theorem k_832 : Cond.fieldLink "SlippedStreamsModel" 47 "SlippedStreamsModel" "storeWord" "[I" ∈ q_big := q_mem 832 (by decide +kernel) rfl
theorem k_833 : Cond.fieldLink "SlippedStreamsModel" 50 "SlippedStreamsModel" "storeThere" "[Z" ∈ q_big := q_mem 833 (by decide +kernel) rfl
theorem k_834 : Cond.fieldLink "SlippedStreamsModel" 53 "SlippedStreamsModel" "plainRegisters" "[I" ∈ q_big := q_mem 834 (by decide +kernel) rfl
theorem k_835 : Cond.fieldLink "SlippedStreamsModel" 56 "SlippedStreamsModel" "plainMemory" "[I" ∈ q_big := q_mem 835 (by decide +kernel) rfl
theorem k_836 : Cond.fieldLink "SlippedStreamsModel" 92 "SlippedStreamsModel" "plainPlace" "I" ∈ q_big := q_mem 836 (by decide +kernel) rfl
theorem k_837 : Cond.fieldLink "SlippedStreamsModel" 59 "SlippedStreamsModel" "written" "[I" ∈ q_big := q_mem 837 (by decide +kernel) rfl
theorem k_838 : Cond.fieldLink "SlippedStreamsModel" 95 "SlippedStreamsModel" "streamOutputs" "I" ∈ q_big := q_mem 838 (by decide +kernel) rfl
theorem k_839 : Cond.fieldLink "SlippedStreamsModel" 98 "SlippedStreamsModel" "plainOutputs" "I" ∈ q_big := q_mem 839 (by decide +kernel) rfl
theorem k_840 : Cond.lays "SlippedStreamsModel" "SlippedStreamsModel" "count" "I" ∈ q_big := q_mem 840 (by decide +kernel) rfl
theorem k_842 : Cond.laysFinal "SlippedStreamsModel" "SlippedStreamsModel" "kinds" "[I" ∈ q_big := q_mem 842 (by decide +kernel) rfl
theorem k_844 : Cond.laysFinal "SlippedStreamsModel" "SlippedStreamsModel" "as" "[I" ∈ q_big := q_mem 844 (by decide +kernel) rfl
theorem k_846 : Cond.laysFinal "SlippedStreamsModel" "SlippedStreamsModel" "bs" "[I" ∈ q_big := q_mem 846 (by decide +kernel) rfl
theorem k_848 : Cond.laysFinal "SlippedStreamsModel" "SlippedStreamsModel" "cs" "[I" ∈ q_big := q_mem 848 (by decide +kernel) rfl
theorem k_850 : Cond.lays "SlippedStreamsModel" "SlippedStreamsModel" "first" "I" ∈ q_big := q_mem 850 (by decide +kernel) rfl
theorem k_852 : Cond.lays "SlippedStreamsModel" "SlippedStreamsModel" "step" "I" ∈ q_big := q_mem 852 (by decide +kernel) rfl
theorem k_854 : Cond.laysFinal "SlippedStreamsModel" "SlippedStreamsModel" "isAddress" "[Z" ∈ q_big := q_mem 854 (by decide +kernel) rfl
theorem k_856 : Cond.laysFinal "SlippedStreamsModel" "SlippedStreamsModel" "registers" "[I" ∈ q_big := q_mem 856 (by decide +kernel) rfl
theorem k_858 : Cond.laysFinal "SlippedStreamsModel" "SlippedStreamsModel" "places" "[I" ∈ q_big := q_mem 858 (by decide +kernel) rfl
theorem k_860 : Cond.laysFinal "SlippedStreamsModel" "SlippedStreamsModel" "behind" "[I" ∈ q_big := q_mem 860 (by decide +kernel) rfl
theorem k_862 : Cond.lays "SlippedStreamsModel" "SlippedStreamsModel" "sent" "Z" ∈ q_big := q_mem 862 (by decide +kernel) rfl
theorem k_864 : Cond.laysFinal "SlippedStreamsModel" "SlippedStreamsModel" "memory" "[I" ∈ q_big := q_mem 864 (by decide +kernel) rfl
theorem k_866 : Cond.lays "SlippedStreamsModel" "SlippedStreamsModel" "lost" "I" ∈ q_big := q_mem 866 (by decide +kernel) rfl
theorem k_868 : Cond.lays "SlippedStreamsModel" "SlippedStreamsModel" "starved" "Z" ∈ q_big := q_mem 868 (by decide +kernel) rfl
theorem k_870 : Cond.laysFinal "SlippedStreamsModel" "SlippedStreamsModel" "queues" "[I" ∈ q_big := q_mem 870 (by decide +kernel) rfl
theorem k_872 : Cond.laysFinal "SlippedStreamsModel" "SlippedStreamsModel" "lengths" "[I" ∈ q_big := q_mem 872 (by decide +kernel) rfl
theorem k_874 : Cond.lays "SlippedStreamsModel" "SlippedStreamsModel" "stores" "I" ∈ q_big := q_mem 874 (by decide +kernel) rfl
theorem k_876 : Cond.laysFinal "SlippedStreamsModel" "SlippedStreamsModel" "storeAt" "[I" ∈ q_big := q_mem 876 (by decide +kernel) rfl
theorem k_878 : Cond.laysFinal "SlippedStreamsModel" "SlippedStreamsModel" "storeWord" "[I" ∈ q_big := q_mem 878 (by decide +kernel) rfl
theorem k_880 : Cond.laysFinal "SlippedStreamsModel" "SlippedStreamsModel" "storeThere" "[Z" ∈ q_big := q_mem 880 (by decide +kernel) rfl
theorem k_882 : Cond.laysFinal "SlippedStreamsModel" "SlippedStreamsModel" "plainRegisters" "[I" ∈ q_big := q_mem 882 (by decide +kernel) rfl
theorem k_884 : Cond.laysFinal "SlippedStreamsModel" "SlippedStreamsModel" "plainMemory" "[I" ∈ q_big := q_mem 884 (by decide +kernel) rfl
theorem k_886 : Cond.lays "SlippedStreamsModel" "SlippedStreamsModel" "plainPlace" "I" ∈ q_big := q_mem 886 (by decide +kernel) rfl
theorem k_888 : Cond.laysFinal "SlippedStreamsModel" "SlippedStreamsModel" "written" "[I" ∈ q_big := q_mem 888 (by decide +kernel) rfl
theorem k_890 : Cond.lays "SlippedStreamsModel" "SlippedStreamsModel" "streamOutputs" "I" ∈ q_big := q_mem 890 (by decide +kernel) rfl
theorem k_892 : Cond.lays "SlippedStreamsModel" "SlippedStreamsModel" "plainOutputs" "I" ∈ q_big := q_mem 892 (by decide +kernel) rfl
theorem k_899 : Cond.methodLink "SlippedStreamsModel" 66 ⟨"SlippedStreamsModel", "isRegister", "(I)Z"⟩ ∈ q_big := q_mem 899 (by decide +kernel) rfl
theorem k_900 : Cond.static ⟨"SlippedStreamsModel", "isRegister", "(I)Z"⟩ ∈ q_big := q_mem 900 (by decide +kernel) rfl
set_option maxRecDepth 100000 in
theorem k_901 : Cond.code ⟨"SlippedStreamsModel", "isRegister", "(I)Z"⟩ prog_13_method_2_code 1 (some .boolean) ∈ q_big := q_mem 901 (rfl) rfl
theorem k_902 : Cond.methodLink "SlippedStreamsModel" 70 ⟨"SlippedStreamsModel", "slice", "()V"⟩ ∈ q_big := q_mem 902 (by decide +kernel) rfl
theorem k_904 : Cond.instanceMethod ⟨"SlippedStreamsModel", "slice", "()V"⟩ ∈ q_big := q_mem 904 (by decide +kernel) rfl
set_option maxRecDepth 100000 in
theorem k_905 : Cond.code ⟨"SlippedStreamsModel", "slice", "()V"⟩ prog_13_method_8_code 4 none ∈ q_big := q_mem 905 (rfl) rfl
theorem k_906 : Cond.methodLink "SlippedStreamsModel" 105 ⟨"SlippedStreamsModel", "reckons", "(I)Z"⟩ ∈ q_big := q_mem 906 (by decide +kernel) rfl
theorem k_907 : Cond.static ⟨"SlippedStreamsModel", "reckons", "(I)Z"⟩ ∈ q_big := q_mem 907 (by decide +kernel) rfl
set_option maxRecDepth 100000 in
theorem k_908 : Cond.code ⟨"SlippedStreamsModel", "reckons", "(I)Z"⟩ prog_13_method_7_code 1 (some .boolean) ∈ q_big := q_mem 908 (rfl) rfl
theorem k_909 : Cond.methodLink "SlippedStreamsModel" 73 ⟨"SlippedStreamsModel", "reset", "()V"⟩ ∈ q_big := q_mem 909 (by decide +kernel) rfl
theorem k_910 : Cond.instanceMethod ⟨"SlippedStreamsModel", "reset", "()V"⟩ ∈ q_big := q_mem 910 (by decide +kernel) rfl
theorem k_911 : Cond.selects "SlippedStreamsModel" ⟨"SlippedStreamsModel", "reset", "()V"⟩ ⟨"SlippedStreamsModel", "reset", "()V"⟩ ∈ q_big := q_mem 911 (by decide +kernel) rfl
set_option maxRecDepth 100000 in
theorem k_912 : Cond.code ⟨"SlippedStreamsModel", "reset", "()V"⟩ prog_13_method_6_code 2 none ∈ q_big := q_mem 912 (rfl) rfl
theorem k_913 : Cond.methodLink "SlippedStreamsModel" 101 ⟨"SlippedStreamsModel", "goOver", "(I)V"⟩ ∈ q_big := q_mem 913 (by decide +kernel) rfl
theorem k_915 : Cond.instanceMethod ⟨"SlippedStreamsModel", "goOver", "(I)V"⟩ ∈ q_big := q_mem 915 (by decide +kernel) rfl
set_option maxRecDepth 100000 in
theorem k_916 : Cond.code ⟨"SlippedStreamsModel", "goOver", "(I)V"⟩ prog_13_method_15_code 2 none ∈ q_big := q_mem 916 (rfl) rfl
theorem k_917 : Cond.methodLink "SlippedStreamsModel" 125 ⟨"SlippedStreamsModel", "isNothing", "(II)Z"⟩ ∈ q_big := q_mem 917 (by decide +kernel) rfl
theorem k_919 : Cond.instanceMethod ⟨"SlippedStreamsModel", "isNothing", "(II)Z"⟩ ∈ q_big := q_mem 919 (by decide +kernel) rfl
set_option maxRecDepth 100000 in
theorem k_920 : Cond.code ⟨"SlippedStreamsModel", "isNothing", "(II)Z"⟩ prog_13_method_14_code 4 (some .boolean) ∈ q_big := q_mem 920 (rfl) rfl
theorem k_921 : Cond.methodLink "SlippedStreamsModel" 115 ⟨"SlippedStreamsModel", "isBranch", "(I)Z"⟩ ∈ q_big := q_mem 921 (by decide +kernel) rfl
theorem k_923 : Cond.instanceMethod ⟨"SlippedStreamsModel", "isBranch", "(I)Z"⟩ ∈ q_big := q_mem 923 (by decide +kernel) rfl
set_option maxRecDepth 100000 in
theorem k_924 : Cond.code ⟨"SlippedStreamsModel", "isBranch", "(I)Z"⟩ prog_13_method_13_code 2 (some .boolean) ∈ q_big := q_mem 924 (rfl) rfl
theorem k_925 : Cond.methodLink "SlippedStreamsModel" 118 ⟨"SlippedStreamsModel", "belongs", "(I)I"⟩ ∈ q_big := q_mem 925 (by decide +kernel) rfl
theorem k_927 : Cond.instanceMethod ⟨"SlippedStreamsModel", "belongs", "(I)I"⟩ ∈ q_big := q_mem 927 (by decide +kernel) rfl
set_option maxRecDepth 100000 in
theorem k_928 : Cond.code ⟨"SlippedStreamsModel", "belongs", "(I)I"⟩ prog_13_method_9_code 3 (some .int) ∈ q_big := q_mem 928 (rfl) rfl
theorem k_929 : Cond.methodLink "SlippedStreamsModel" 122 ⟨"SlippedStreamsModel", "howMany", "(I)I"⟩ ∈ q_big := q_mem 929 (by decide +kernel) rfl
theorem k_931 : Cond.instanceMethod ⟨"SlippedStreamsModel", "howMany", "(I)I"⟩ ∈ q_big := q_mem 931 (by decide +kernel) rfl
set_option maxRecDepth 100000 in
theorem k_932 : Cond.code ⟨"SlippedStreamsModel", "howMany", "(I)I"⟩ prog_13_method_12_code 2 (some .int) ∈ q_big := q_mem 932 (rfl) rfl
theorem k_933 : Cond.methodLink "SlippedStreamsModel" 112 ⟨"SlippedStreamsModel", "handed", "(II)I"⟩ ∈ q_big := q_mem 933 (by decide +kernel) rfl
theorem k_935 : Cond.instanceMethod ⟨"SlippedStreamsModel", "handed", "(II)I"⟩ ∈ q_big := q_mem 935 (by decide +kernel) rfl
set_option maxRecDepth 100000 in
theorem k_936 : Cond.code ⟨"SlippedStreamsModel", "handed", "(II)I"⟩ prog_13_method_11_code 7 (some .int) ∈ q_big := q_mem 936 (rfl) rfl
theorem k_937 : Cond.methodLink "SlippedStreamsModel" 108 ⟨"SlippedStreamsModel", "reads", "(II)I"⟩ ∈ q_big := q_mem 937 (by decide +kernel) rfl
theorem k_939 : Cond.instanceMethod ⟨"SlippedStreamsModel", "reads", "(II)I"⟩ ∈ q_big := q_mem 939 (by decide +kernel) rfl
set_option maxRecDepth 100000 in
theorem k_940 : Cond.code ⟨"SlippedStreamsModel", "reads", "(II)I"⟩ prog_13_method_10_code 4 (some .int) ∈ q_big := q_mem 940 (rfl) rfl
theorem k_954 : Cond.methodLink "SlippedStreamsModel" 184 ⟨"SlippedStreamsModel", "isCount", "(I)Z"⟩ ∈ q_big := q_mem 954 (by decide +kernel) rfl
theorem k_955 : Cond.static ⟨"SlippedStreamsModel", "isCount", "(I)Z"⟩ ∈ q_big := q_mem 955 (by decide +kernel) rfl
set_option maxRecDepth 100000 in
theorem k_956 : Cond.code ⟨"SlippedStreamsModel", "isCount", "(I)Z"⟩ prog_13_method_34_code 1 (some .boolean) ∈ q_big := q_mem 956 (rfl) rfl
theorem k_957 : Cond.methodLink "SlippedStreamsModel" 187 ⟨"SlippedStreamsModel", "moveAddress", "()Z"⟩ ∈ q_big := q_mem 957 (by decide +kernel) rfl
theorem k_959 : Cond.instanceMethod ⟨"SlippedStreamsModel", "moveAddress", "()Z"⟩ ∈ q_big := q_mem 959 (by decide +kernel) rfl
set_option maxRecDepth 100000 in
theorem k_960 : Cond.code ⟨"SlippedStreamsModel", "moveAddress", "()Z"⟩ prog_13_method_28_code 4 (some .boolean) ∈ q_big := q_mem 960 (rfl) rfl
theorem k_961 : Cond.methodLink "SlippedStreamsModel" 154 ⟨"SlippedStreamsModel", "load", "(I)Z"⟩ ∈ q_big := q_mem 961 (by decide +kernel) rfl
theorem k_963 : Cond.instanceMethod ⟨"SlippedStreamsModel", "load", "(I)Z"⟩ ∈ q_big := q_mem 963 (by decide +kernel) rfl
set_option maxRecDepth 100000 in
theorem k_964 : Cond.code ⟨"SlippedStreamsModel", "load", "(I)Z"⟩ prog_13_method_25_code 4 (some .boolean) ∈ q_big := q_mem 964 (rfl) rfl
theorem k_965 : Cond.methodLink "SlippedStreamsModel" 133 ⟨"SlippedStreamsModel", "isInList", "(I)Z"⟩ ∈ q_big := q_mem 965 (by decide +kernel) rfl
theorem k_967 : Cond.instanceMethod ⟨"SlippedStreamsModel", "isInList", "(I)Z"⟩ ∈ q_big := q_mem 967 (by decide +kernel) rfl
set_option maxRecDepth 100000 in
theorem k_968 : Cond.code ⟨"SlippedStreamsModel", "isInList", "(I)Z"⟩ prog_13_method_21_code 4 (some .boolean) ∈ q_big := q_mem 968 (rfl) rfl
theorem k_969 : Cond.methodLink "SlippedStreamsModel" 136 ⟨"SlippedStreamsModel", "hasRoom", "(II)Z"⟩ ∈ q_big := q_mem 969 (by decide +kernel) rfl
theorem k_971 : Cond.instanceMethod ⟨"SlippedStreamsModel", "hasRoom", "(II)Z"⟩ ∈ q_big := q_mem 971 (by decide +kernel) rfl
set_option maxRecDepth 100000 in
theorem k_972 : Cond.code ⟨"SlippedStreamsModel", "hasRoom", "(II)Z"⟩ prog_13_method_17_code 3 (some .boolean) ∈ q_big := q_mem 972 (rfl) rfl
theorem k_973 : Cond.methodLink "SlippedStreamsModel" 129 ⟨"SlippedStreamsModel", "put", "(II)V"⟩ ∈ q_big := q_mem 973 (by decide +kernel) rfl
theorem k_975 : Cond.instanceMethod ⟨"SlippedStreamsModel", "put", "(II)V"⟩ ∈ q_big := q_mem 975 (by decide +kernel) rfl
set_option maxRecDepth 100000 in
theorem k_976 : Cond.code ⟨"SlippedStreamsModel", "put", "(II)V"⟩ prog_13_method_18_code 3 none ∈ q_big := q_mem 976 (rfl) rfl
theorem k_977 : Cond.methodLink "SlippedStreamsModel" 139 ⟨"SlippedStreamsModel", "leave", "(II)V"⟩ ∈ q_big := q_mem 977 (by decide +kernel) rfl
theorem k_979 : Cond.instanceMethod ⟨"SlippedStreamsModel", "leave", "(II)V"⟩ ∈ q_big := q_mem 979 (by decide +kernel) rfl
set_option maxRecDepth 100000 in
theorem k_980 : Cond.code ⟨"SlippedStreamsModel", "leave", "(II)V"⟩ prog_13_method_16_code 3 none ∈ q_big := q_mem 980 (rfl) rfl
theorem k_981 : Cond.methodLink "SlippedStreamsModel" 157 ⟨"SlippedStreamsModel", "store", "(I)Z"⟩ ∈ q_big := q_mem 981 (by decide +kernel) rfl
theorem k_983 : Cond.instanceMethod ⟨"SlippedStreamsModel", "store", "(I)Z"⟩ ∈ q_big := q_mem 983 (by decide +kernel) rfl
set_option maxRecDepth 100000 in
theorem k_984 : Cond.code ⟨"SlippedStreamsModel", "store", "(I)Z"⟩ prog_13_method_26_code 3 (some .boolean) ∈ q_big := q_mem 984 (rfl) rfl
theorem k_985 : Cond.methodLink "SlippedStreamsModel" 142 ⟨"SlippedStreamsModel", "take", "(I)I"⟩ ∈ q_big := q_mem 985 (by decide +kernel) rfl
theorem k_987 : Cond.instanceMethod ⟨"SlippedStreamsModel", "take", "(I)I"⟩ ∈ q_big := q_mem 987 (by decide +kernel) rfl
set_option maxRecDepth 100000 in
theorem k_988 : Cond.code ⟨"SlippedStreamsModel", "take", "(I)I"⟩ prog_13_method_19_code 4 (some .int) ∈ q_big := q_mem 988 (rfl) rfl
theorem k_989 : Cond.methodLink "SlippedStreamsModel" 145 ⟨"SlippedStreamsModel", "drain", "()V"⟩ ∈ q_big := q_mem 989 (by decide +kernel) rfl
theorem k_991 : Cond.instanceMethod ⟨"SlippedStreamsModel", "drain", "()V"⟩ ∈ q_big := q_mem 991 (by decide +kernel) rfl
set_option maxRecDepth 100000 in
theorem k_992 : Cond.code ⟨"SlippedStreamsModel", "drain", "()V"⟩ prog_13_method_20_code 2 none ∈ q_big := q_mem 992 (rfl) rfl
theorem k_993 : Cond.methodLink "SlippedStreamsModel" 160 ⟨"SlippedStreamsModel", "follow", "(I)Z"⟩ ∈ q_big := q_mem 993 (by decide +kernel) rfl
theorem k_995 : Cond.instanceMethod ⟨"SlippedStreamsModel", "follow", "(I)Z"⟩ ∈ q_big := q_mem 995 (by decide +kernel) rfl
set_option maxRecDepth 100000 in
theorem k_996 : Cond.code ⟨"SlippedStreamsModel", "follow", "(I)Z"⟩ prog_13_method_27_code 3 (some .boolean) ∈ q_big := q_mem 996 (rfl) rfl
theorem k_997 : Cond.methodLink "SlippedStreamsModel" 148 ⟨"SlippedStreamsModel", "hand", "(I)V"⟩ ∈ q_big := q_mem 997 (by decide +kernel) rfl
theorem k_999 : Cond.instanceMethod ⟨"SlippedStreamsModel", "hand", "(I)V"⟩ ∈ q_big := q_mem 999 (by decide +kernel) rfl
set_option maxRecDepth 100000 in
theorem k_1000 : Cond.code ⟨"SlippedStreamsModel", "hand", "(I)V"⟩ prog_13_method_24_code 3 none ∈ q_big := q_mem 1000 (rfl) rfl
theorem k_1001 : Cond.methodLink "SlippedStreamsModel" 163 ⟨"SlippedStreamsModel", "holds", "(III)Z"⟩ ∈ q_big := q_mem 1001 (by decide +kernel) rfl
theorem k_1002 : Cond.static ⟨"SlippedStreamsModel", "holds", "(III)Z"⟩ ∈ q_big := q_mem 1002 (by decide +kernel) rfl
set_option maxRecDepth 100000 in
theorem k_1003 : Cond.code ⟨"SlippedStreamsModel", "holds", "(III)Z"⟩ prog_13_method_23_code 3 (some .boolean) ∈ q_big := q_mem 1003 (rfl) rfl
theorem k_1004 : Cond.methodLink "SlippedStreamsModel" 167 ⟨"SlippedStreamsModel", "reckon", "(III)I"⟩ ∈ q_big := q_mem 1004 (by decide +kernel) rfl
theorem k_1005 : Cond.static ⟨"SlippedStreamsModel", "reckon", "(III)I"⟩ ∈ q_big := q_mem 1005 (by decide +kernel) rfl
set_option maxRecDepth 100000 in
theorem k_1006 : Cond.code ⟨"SlippedStreamsModel", "reckon", "(III)I"⟩ prog_13_method_22_code 3 (some .int) ∈ q_big := q_mem 1006 (rfl) rfl
theorem k_1011 : Cond.methodLink "SlippedStreamsModel" 191 ⟨"SlippedStreamsModel", "moveValue", "()Z"⟩ ∈ q_big := q_mem 1011 (by decide +kernel) rfl
theorem k_1013 : Cond.instanceMethod ⟨"SlippedStreamsModel", "moveValue", "()Z"⟩ ∈ q_big := q_mem 1013 (by decide +kernel) rfl
set_option maxRecDepth 100000 in
theorem k_1014 : Cond.code ⟨"SlippedStreamsModel", "moveValue", "()Z"⟩ prog_13_method_33_code 2 (some .boolean) ∈ q_big := q_mem 1014 (rfl) rfl
theorem k_1015 : Cond.methodLink "SlippedStreamsModel" 178 ⟨"SlippedStreamsModel", "give", "(I)Z"⟩ ∈ q_big := q_mem 1015 (by decide +kernel) rfl
theorem k_1017 : Cond.instanceMethod ⟨"SlippedStreamsModel", "give", "(I)Z"⟩ ∈ q_big := q_mem 1017 (by decide +kernel) rfl
set_option maxRecDepth 100000 in
theorem k_1018 : Cond.code ⟨"SlippedStreamsModel", "give", "(I)Z"⟩ prog_13_method_30_code 4 (some .boolean) ∈ q_big := q_mem 1018 (rfl) rfl
theorem k_1019 : Cond.methodLink "SlippedStreamsModel" 181 ⟨"SlippedStreamsModel", "work", "(I)Z"⟩ ∈ q_big := q_mem 1019 (by decide +kernel) rfl
theorem k_1021 : Cond.instanceMethod ⟨"SlippedStreamsModel", "work", "(I)Z"⟩ ∈ q_big := q_mem 1021 (by decide +kernel) rfl
set_option maxRecDepth 100000 in
theorem k_1022 : Cond.code ⟨"SlippedStreamsModel", "work", "(I)Z"⟩ prog_13_method_32_code 7 (some .boolean) ∈ q_big := q_mem 1022 (rfl) rfl
theorem k_1023 : Cond.methodLink "SlippedStreamsModel" 171 ⟨"SlippedStreamsModel", "valueOf", "(II)I"⟩ ∈ q_big := q_mem 1023 (by decide +kernel) rfl
theorem k_1025 : Cond.instanceMethod ⟨"SlippedStreamsModel", "valueOf", "(II)I"⟩ ∈ q_big := q_mem 1025 (by decide +kernel) rfl
set_option maxRecDepth 100000 in
theorem k_1026 : Cond.code ⟨"SlippedStreamsModel", "valueOf", "(II)I"⟩ prog_13_method_29_code 4 (some .int) ∈ q_big := q_mem 1026 (rfl) rfl
theorem k_1027 : Cond.methodLink "SlippedStreamsModel" 174 ⟨"SlippedStreamsModel", "write", "(III)V"⟩ ∈ q_big := q_mem 1027 (by decide +kernel) rfl
theorem k_1029 : Cond.instanceMethod ⟨"SlippedStreamsModel", "write", "(III)V"⟩ ∈ q_big := q_mem 1029 (by decide +kernel) rfl
set_option maxRecDepth 100000 in
theorem k_1030 : Cond.code ⟨"SlippedStreamsModel", "write", "(III)V"⟩ prog_13_method_31_code 4 none ∈ q_big := q_mem 1030 (rfl) rfl
theorem k_1039 : Cond.methodLink "SlippedStreamsModel" 194 ⟨"SlippedStreamsModel", "plainStep", "()V"⟩ ∈ q_big := q_mem 1039 (by decide +kernel) rfl
theorem k_1041 : Cond.instanceMethod ⟨"SlippedStreamsModel", "plainStep", "()V"⟩ ∈ q_big := q_mem 1041 (by decide +kernel) rfl
set_option maxRecDepth 100000 in
theorem k_1042 : Cond.code ⟨"SlippedStreamsModel", "plainStep", "()V"⟩ prog_13_method_38_code 5 none ∈ q_big := q_mem 1042 (rfl) rfl
theorem k_1083 : Cond.sameMethod "SlippedStreams$Stream" "SlippedStreams$Stream" "begin" "()V" ∈ q_big := q_mem 1083 (by decide +kernel) rfl
theorem k_1084 : Cond.sameMethod "SlippedStreams$Stream" "SlippedStreams$Stream" "goOver" "()V" ∈ q_big := q_mem 1084 (by decide +kernel) rfl
theorem k_1085 : Cond.sameMethod "SlippedStreams$Stream" "SlippedStreams$Stream" "leaveFor" "(I)Z" ∈ q_big := q_mem 1085 (by decide +kernel) rfl
theorem k_1086 : Cond.selects "SlippedStreams$AddressStream" ⟨"SlippedStreams$Stream", "leaveFor", "(I)Z"⟩ ⟨"SlippedStreams$Stream", "leaveFor", "(I)Z"⟩ ∈ q_big := q_mem 1086 (by decide +kernel) rfl
theorem k_1087 : Cond.selects "SlippedStreams$ValueStream" ⟨"SlippedStreams$Stream", "leaveFor", "(I)Z"⟩ ⟨"SlippedStreams$Stream", "leaveFor", "(I)Z"⟩ ∈ q_big := q_mem 1087 (by decide +kernel) rfl
theorem k_1088 : Cond.sameMethod "SlippedStreams$Run" "SlippedStreams$Run" "combined" "(I)I" ∈ q_big := q_mem 1088 (by decide +kernel) rfl
theorem k_1089 : Cond.selects "SlippedStreams$AddressStream" ⟨"SlippedStreams$AddressStream", "step", "()Z"⟩ ⟨"SlippedStreams$AddressStream", "step", "()Z"⟩ ∈ q_big := q_mem 1089 (by decide +kernel) rfl
theorem k_1090 : Cond.selects "SlippedStreams$ValueStream" ⟨"SlippedStreams$ValueStream", "step", "()Z"⟩ ⟨"SlippedStreams$ValueStream", "step", "()Z"⟩ ∈ q_big := q_mem 1090 (by decide +kernel) rfl
theorem hin_SlippedStreams : ∀ w ∈ u_ws R_SlippedStreams F_SlippedStreams 7, w ∈ q_big := List.forall_mem_cons.mpr ⟨k_368, List.forall_mem_cons.mpr ⟨k_370, List.forall_mem_cons.mpr ⟨k_372, List.forall_mem_cons.mpr ⟨k_374, List.forall_mem_cons.mpr ⟨k_376, List.forall_mem_cons.mpr ⟨k_378, List.forall_mem_cons.mpr ⟨k_380, fun _ h => absurd h List.not_mem_nil⟩⟩⟩⟩⟩⟩⟩
theorem hin_Program : ∀ w ∈ u_ws R_Program F_Program 12, w ∈ q_big := List.forall_mem_cons.mpr ⟨k_120, List.forall_mem_cons.mpr ⟨k_122, List.forall_mem_cons.mpr ⟨k_124, List.forall_mem_cons.mpr ⟨k_126, List.forall_mem_cons.mpr ⟨k_128, List.forall_mem_cons.mpr ⟨k_130, List.forall_mem_cons.mpr ⟨k_132, List.forall_mem_cons.mpr ⟨k_134, List.forall_mem_cons.mpr ⟨k_136, List.forall_mem_cons.mpr ⟨k_138, List.forall_mem_cons.mpr ⟨k_140, List.forall_mem_cons.mpr ⟨k_142, fun _ h => absurd h List.not_mem_nil⟩⟩⟩⟩⟩⟩⟩⟩⟩⟩⟩⟩
theorem hin_Link : ∀ w ∈ u_ws R_Link F_Link 7, w ∈ q_big := List.forall_mem_cons.mpr ⟨k_226, List.forall_mem_cons.mpr ⟨k_228, List.forall_mem_cons.mpr ⟨k_230, List.forall_mem_cons.mpr ⟨k_232, List.forall_mem_cons.mpr ⟨k_234, List.forall_mem_cons.mpr ⟨k_236, List.forall_mem_cons.mpr ⟨k_238, fun _ h => absurd h List.not_mem_nil⟩⟩⟩⟩⟩⟩⟩
theorem hin_Fifo : ∀ w ∈ u_ws R_Fifo F_Fifo 3, w ∈ q_big := List.forall_mem_cons.mpr ⟨k_166, List.forall_mem_cons.mpr ⟨k_168, List.forall_mem_cons.mpr ⟨k_170, fun _ h => absurd h List.not_mem_nil⟩⟩⟩
theorem hin_StoreList : ∀ w ∈ u_ws R_StoreList F_StoreList 6, w ∈ q_big := List.forall_mem_cons.mpr ⟨k_186, List.forall_mem_cons.mpr ⟨k_188, List.forall_mem_cons.mpr ⟨k_190, List.forall_mem_cons.mpr ⟨k_192, List.forall_mem_cons.mpr ⟨k_194, List.forall_mem_cons.mpr ⟨k_196, fun _ h => absurd h List.not_mem_nil⟩⟩⟩⟩⟩⟩
theorem hin_AddressStream : ∀ w ∈ u_ws R_AddressStream F_AddressStream 7, w ∈ q_big := List.forall_mem_cons.mpr ⟨k_295, List.forall_mem_cons.mpr ⟨k_297, List.forall_mem_cons.mpr ⟨k_299, List.forall_mem_cons.mpr ⟨k_301, List.forall_mem_cons.mpr ⟨k_303, List.forall_mem_cons.mpr ⟨k_305, List.forall_mem_cons.mpr ⟨k_307, fun _ h => absurd h List.not_mem_nil⟩⟩⟩⟩⟩⟩⟩
theorem hin_ValueStream : ∀ w ∈ u_ws R_ValueStream F_ValueStream 7, w ∈ q_big := List.forall_mem_cons.mpr ⟨k_332, List.forall_mem_cons.mpr ⟨k_334, List.forall_mem_cons.mpr ⟨k_335, List.forall_mem_cons.mpr ⟨k_336, List.forall_mem_cons.mpr ⟨k_337, List.forall_mem_cons.mpr ⟨k_338, List.forall_mem_cons.mpr ⟨k_339, fun _ h => absurd h List.not_mem_nil⟩⟩⟩⟩⟩⟩⟩
theorem hin_Written : ∀ w ∈ u_ws R_Written F_Written 2, w ∈ q_big := List.forall_mem_cons.mpr ⟨k_325, List.forall_mem_cons.mpr ⟨k_327, fun _ h => absurd h List.not_mem_nil⟩⟩
theorem hin_PlainRun : ∀ w ∈ u_ws R_PlainRun F_PlainRun 5, w ∈ q_big := List.forall_mem_cons.mpr ⟨k_353, List.forall_mem_cons.mpr ⟨k_355, List.forall_mem_cons.mpr ⟨k_357, List.forall_mem_cons.mpr ⟨k_358, List.forall_mem_cons.mpr ⟨k_359, fun _ h => absurd h List.not_mem_nil⟩⟩⟩⟩⟩
theorem hin_SlippedStreamsModel : ∀ w ∈ u_ws R_SlippedStreamsModel F_SlippedStreamsModel 27, w ∈ q_big := List.forall_mem_cons.mpr ⟨k_840, List.forall_mem_cons.mpr ⟨k_842, List.forall_mem_cons.mpr ⟨k_844, List.forall_mem_cons.mpr ⟨k_846, List.forall_mem_cons.mpr ⟨k_848, List.forall_mem_cons.mpr ⟨k_850, List.forall_mem_cons.mpr ⟨k_852, List.forall_mem_cons.mpr ⟨k_854, List.forall_mem_cons.mpr ⟨k_856, List.forall_mem_cons.mpr ⟨k_858, List.forall_mem_cons.mpr ⟨k_860, List.forall_mem_cons.mpr ⟨k_862, List.forall_mem_cons.mpr ⟨k_864, List.forall_mem_cons.mpr ⟨k_866, List.forall_mem_cons.mpr ⟨k_868, List.forall_mem_cons.mpr ⟨k_870, List.forall_mem_cons.mpr ⟨k_872, List.forall_mem_cons.mpr ⟨k_874, List.forall_mem_cons.mpr ⟨k_876, List.forall_mem_cons.mpr ⟨k_878, List.forall_mem_cons.mpr ⟨k_880, List.forall_mem_cons.mpr ⟨k_882, List.forall_mem_cons.mpr ⟨k_884, List.forall_mem_cons.mpr ⟨k_886, List.forall_mem_cons.mpr ⟨k_888, List.forall_mem_cons.mpr ⟨k_890, List.forall_mem_cons.mpr ⟨k_892, fun _ h => absurd h List.not_mem_nil⟩⟩⟩⟩⟩⟩⟩⟩⟩⟩⟩⟩⟩⟩⟩⟩⟩⟩⟩⟩⟩⟩⟩⟩⟩⟩⟩
abbrev w_SlippedStreams_init : List Cond := Cond.code y_SlippedStreams_init b_SlippedStreams_init 1 none :: q_big
abbrev w_SlippedStreams_add : List Cond := Cond.code y_SlippedStreams_add b_SlippedStreams_add 6 (some .int) :: q_big
abbrev w_SlippedStreams_fill : List Cond := Cond.code y_SlippedStreams_fill b_SlippedStreams_fill 4 none :: q_big
abbrev w_SlippedStreams_clear : List Cond := Cond.code y_SlippedStreams_clear b_SlippedStreams_clear 2 (some .int) :: q_big
abbrev w_SlippedStreams_reset : List Cond := Cond.code y_SlippedStreams_reset b_SlippedStreams_reset 1 none :: q_big
abbrev w_SlippedStreams_streamOf : List Cond := Cond.code y_SlippedStreams_streamOf b_SlippedStreams_streamOf 2 (some .int) :: q_big
abbrev w_SlippedStreams_addressRegisters : List Cond := Cond.code y_SlippedStreams_addressRegisters b_SlippedStreams_addressRegisters 1 (some .int) :: q_big
abbrev w_SlippedStreams_address : List Cond := Cond.code y_SlippedStreams_address b_SlippedStreams_address 3 (some .int) :: q_big
abbrev w_SlippedStreams_value : List Cond := Cond.code y_SlippedStreams_value b_SlippedStreams_value 2 (some .int) :: q_big
abbrev w_SlippedStreams_both : List Cond := Cond.code y_SlippedStreams_both b_SlippedStreams_both 4 (some .int) :: q_big
abbrev w_SlippedStreams_place : List Cond := Cond.code y_SlippedStreams_place b_SlippedStreams_place 2 (some .int) :: q_big
abbrev w_SlippedStreams_slip : List Cond := Cond.code y_SlippedStreams_slip b_SlippedStreams_slip 1 (some .int) :: q_big
abbrev w_SlippedStreams_queue : List Cond := Cond.code y_SlippedStreams_queue b_SlippedStreams_queue 2 (some .int) :: q_big
abbrev w_SlippedStreams_register : List Cond := Cond.code y_SlippedStreams_register b_SlippedStreams_register 3 (some .int) :: q_big
abbrev w_SlippedStreams_peek : List Cond := Cond.code y_SlippedStreams_peek b_SlippedStreams_peek 4 (some .int) :: q_big
abbrev w_SlippedStreams_losses : List Cond := Cond.code y_SlippedStreams_losses b_SlippedStreams_losses 1 (some .int) :: q_big
abbrev w_SlippedStreams_plain : List Cond := Cond.code y_SlippedStreams_plain b_SlippedStreams_plain 2 (some .int) :: q_big
abbrev w_SlippedStreams_outputs : List Cond := Cond.code y_SlippedStreams_outputs b_SlippedStreams_outputs 2 (some .int) :: q_big
abbrev w_SlippedStreams_output : List Cond := Cond.code y_SlippedStreams_output b_SlippedStreams_output 3 (some .int) :: q_big
abbrev w_SlippedStreams_beginAnew : List Cond := Cond.code y_SlippedStreams_beginAnew b_SlippedStreams_beginAnew 1 none :: q_big
abbrev w_SlippedStreams_noteLoss : List Cond := Cond.code y_SlippedStreams_noteLoss b_SlippedStreams_noteLoss 1 none :: q_big
abbrev w_SlippedStreams_isMoveCount : List Cond := Cond.code y_SlippedStreams_isMoveCount b_SlippedStreams_isMoveCount 1 (some .boolean) :: q_big
abbrev w_SlippedStreams_isRegister : List Cond := Cond.code y_SlippedStreams_isRegister b_SlippedStreams_isRegister 1 (some .boolean) :: q_big
abbrev w_SlippedStreamsModel_init : List Cond := Cond.code y_SlippedStreamsModel_init b_SlippedStreamsModel_init 1 none :: q_big
abbrev w_SlippedStreamsModel_isRegister : List Cond := Cond.code y_SlippedStreamsModel_isRegister b_SlippedStreamsModel_isRegister 1 (some .boolean) :: q_big
abbrev w_SlippedStreamsModel_add : List Cond := Cond.code y_SlippedStreamsModel_add b_SlippedStreamsModel_add 6 (some .int) :: q_big
abbrev w_SlippedStreamsModel_fill : List Cond := Cond.code y_SlippedStreamsModel_fill b_SlippedStreamsModel_fill 3 none :: q_big
abbrev w_SlippedStreamsModel_clear : List Cond := Cond.code y_SlippedStreamsModel_clear b_SlippedStreamsModel_clear 2 (some .int) :: q_big
abbrev w_SlippedStreamsModel_reset : List Cond := Cond.code y_SlippedStreamsModel_reset b_SlippedStreamsModel_reset 2 none :: q_big
abbrev w_SlippedStreamsModel_reckons : List Cond := Cond.code y_SlippedStreamsModel_reckons b_SlippedStreamsModel_reckons 1 (some .boolean) :: q_big
abbrev w_SlippedStreamsModel_slice : List Cond := Cond.code y_SlippedStreamsModel_slice b_SlippedStreamsModel_slice 4 none :: q_big
abbrev w_SlippedStreamsModel_belongs : List Cond := Cond.code y_SlippedStreamsModel_belongs b_SlippedStreamsModel_belongs 3 (some .int) :: q_big
abbrev w_SlippedStreamsModel_reads : List Cond := Cond.code y_SlippedStreamsModel_reads b_SlippedStreamsModel_reads 4 (some .int) :: q_big
abbrev w_SlippedStreamsModel_handed : List Cond := Cond.code y_SlippedStreamsModel_handed b_SlippedStreamsModel_handed 7 (some .int) :: q_big
abbrev w_SlippedStreamsModel_howMany : List Cond := Cond.code y_SlippedStreamsModel_howMany b_SlippedStreamsModel_howMany 2 (some .int) :: q_big
abbrev w_SlippedStreamsModel_isBranch : List Cond := Cond.code y_SlippedStreamsModel_isBranch b_SlippedStreamsModel_isBranch 2 (some .boolean) :: q_big
abbrev w_SlippedStreamsModel_isNothing : List Cond := Cond.code y_SlippedStreamsModel_isNothing b_SlippedStreamsModel_isNothing 4 (some .boolean) :: q_big
abbrev w_SlippedStreamsModel_goOver : List Cond := Cond.code y_SlippedStreamsModel_goOver b_SlippedStreamsModel_goOver 2 none :: q_big
abbrev w_SlippedStreamsModel_leave : List Cond := Cond.code y_SlippedStreamsModel_leave b_SlippedStreamsModel_leave 3 none :: q_big
abbrev w_SlippedStreamsModel_hasRoom : List Cond := Cond.code y_SlippedStreamsModel_hasRoom b_SlippedStreamsModel_hasRoom 3 (some .boolean) :: q_big
abbrev w_SlippedStreamsModel_put : List Cond := Cond.code y_SlippedStreamsModel_put b_SlippedStreamsModel_put 3 none :: q_big
abbrev w_SlippedStreamsModel_take : List Cond := Cond.code y_SlippedStreamsModel_take b_SlippedStreamsModel_take 4 (some .int) :: q_big
abbrev w_SlippedStreamsModel_drain : List Cond := Cond.code y_SlippedStreamsModel_drain b_SlippedStreamsModel_drain 2 none :: q_big
abbrev w_SlippedStreamsModel_isInList : List Cond := Cond.code y_SlippedStreamsModel_isInList b_SlippedStreamsModel_isInList 4 (some .boolean) :: q_big
abbrev w_SlippedStreamsModel_reckon : List Cond := Cond.code y_SlippedStreamsModel_reckon b_SlippedStreamsModel_reckon 3 (some .int) :: q_big
abbrev w_SlippedStreamsModel_holds : List Cond := Cond.code y_SlippedStreamsModel_holds b_SlippedStreamsModel_holds 3 (some .boolean) :: q_big
abbrev w_SlippedStreamsModel_hand : List Cond := Cond.code y_SlippedStreamsModel_hand b_SlippedStreamsModel_hand 3 none :: q_big
abbrev w_SlippedStreamsModel_load : List Cond := Cond.code y_SlippedStreamsModel_load b_SlippedStreamsModel_load 4 (some .boolean) :: q_big
abbrev w_SlippedStreamsModel_store : List Cond := Cond.code y_SlippedStreamsModel_store b_SlippedStreamsModel_store 3 (some .boolean) :: q_big
abbrev w_SlippedStreamsModel_follow : List Cond := Cond.code y_SlippedStreamsModel_follow b_SlippedStreamsModel_follow 3 (some .boolean) :: q_big
abbrev w_SlippedStreamsModel_moveAddress : List Cond := Cond.code y_SlippedStreamsModel_moveAddress b_SlippedStreamsModel_moveAddress 4 (some .boolean) :: q_big
abbrev w_SlippedStreamsModel_valueOf : List Cond := Cond.code y_SlippedStreamsModel_valueOf b_SlippedStreamsModel_valueOf 4 (some .int) :: q_big
abbrev w_SlippedStreamsModel_give : List Cond := Cond.code y_SlippedStreamsModel_give b_SlippedStreamsModel_give 4 (some .boolean) :: q_big
abbrev w_SlippedStreamsModel_write : List Cond := Cond.code y_SlippedStreamsModel_write b_SlippedStreamsModel_write 4 none :: q_big
abbrev w_SlippedStreamsModel_work : List Cond := Cond.code y_SlippedStreamsModel_work b_SlippedStreamsModel_work 7 (some .boolean) :: q_big
abbrev w_SlippedStreamsModel_moveValue : List Cond := Cond.code y_SlippedStreamsModel_moveValue b_SlippedStreamsModel_moveValue 2 (some .boolean) :: q_big
abbrev w_SlippedStreamsModel_isCount : List Cond := Cond.code y_SlippedStreamsModel_isCount b_SlippedStreamsModel_isCount 1 (some .boolean) :: q_big
abbrev w_SlippedStreamsModel_address : List Cond := Cond.code y_SlippedStreamsModel_address b_SlippedStreamsModel_address 3 (some .int) :: q_big
abbrev w_SlippedStreamsModel_value : List Cond := Cond.code y_SlippedStreamsModel_value b_SlippedStreamsModel_value 3 (some .int) :: q_big
abbrev w_SlippedStreamsModel_both : List Cond := Cond.code y_SlippedStreamsModel_both b_SlippedStreamsModel_both 4 (some .int) :: q_big
abbrev w_SlippedStreamsModel_plainStep : List Cond := Cond.code y_SlippedStreamsModel_plainStep b_SlippedStreamsModel_plainStep 5 none :: q_big
abbrev w_SlippedStreamsModel_plain : List Cond := Cond.code y_SlippedStreamsModel_plain b_SlippedStreamsModel_plain 3 (some .int) :: q_big
abbrev w_SlippedStreamsModel_streamOf : List Cond := Cond.code y_SlippedStreamsModel_streamOf b_SlippedStreamsModel_streamOf 2 (some .int) :: q_big
abbrev w_SlippedStreamsModel_addressRegisters : List Cond := Cond.code y_SlippedStreamsModel_addressRegisters b_SlippedStreamsModel_addressRegisters 3 (some .int) :: q_big
abbrev w_SlippedStreamsModel_place : List Cond := Cond.code y_SlippedStreamsModel_place b_SlippedStreamsModel_place 3 (some .int) :: q_big
abbrev w_SlippedStreamsModel_slip : List Cond := Cond.code y_SlippedStreamsModel_slip b_SlippedStreamsModel_slip 1 (some .int) :: q_big
abbrev w_SlippedStreamsModel_queue : List Cond := Cond.code y_SlippedStreamsModel_queue b_SlippedStreamsModel_queue 2 (some .int) :: q_big
abbrev w_SlippedStreamsModel_register : List Cond := Cond.code y_SlippedStreamsModel_register b_SlippedStreamsModel_register 3 (some .int) :: q_big
abbrev w_SlippedStreamsModel_peek : List Cond := Cond.code y_SlippedStreamsModel_peek b_SlippedStreamsModel_peek 3 (some .int) :: q_big
abbrev w_SlippedStreamsModel_losses : List Cond := Cond.code y_SlippedStreamsModel_losses b_SlippedStreamsModel_losses 1 (some .int) :: q_big
abbrev w_SlippedStreamsModel_outputs : List Cond := Cond.code y_SlippedStreamsModel_outputs b_SlippedStreamsModel_outputs 2 (some .int) :: q_big
abbrev w_SlippedStreamsModel_output : List Cond := Cond.code y_SlippedStreamsModel_output b_SlippedStreamsModel_output 4 (some .int) :: q_big
abbrev w_AddressStream_init : List Cond := Cond.code y_AddressStream_init b_AddressStream_init 3 none :: q_big
abbrev w_AddressStream_begin : List Cond := Cond.code y_AddressStream_begin b_AddressStream_begin 1 none :: q_big
abbrev w_AddressStream_step : List Cond := Cond.code y_AddressStream_step b_AddressStream_step 1 (some .boolean) :: q_big
abbrev w_AddressStream_isAtOutcome : List Cond := Cond.code y_AddressStream_isAtOutcome b_AddressStream_isAtOutcome 1 (some .boolean) :: q_big
abbrev w_AddressStream_doOwn : List Cond := Cond.code y_AddressStream_doOwn b_AddressStream_doOwn 2 (some .boolean) :: q_big
abbrev w_AddressStream_load : List Cond := Cond.code y_AddressStream_load b_AddressStream_load 3 (some .boolean) :: q_big
abbrev w_AddressStream_store : List Cond := Cond.code y_AddressStream_store b_AddressStream_store 3 (some .boolean) :: q_big
abbrev w_AddressStream_serve : List Cond := Cond.code y_AddressStream_serve b_AddressStream_serve 3 (some .boolean) :: q_big
abbrev w_AddressStream_sendLoad : List Cond := Cond.code y_AddressStream_sendLoad b_AddressStream_sendLoad 3 (some .boolean) :: q_big
abbrev w_AddressStream_hand : List Cond := Cond.code y_AddressStream_hand b_AddressStream_hand 2 none :: q_big
abbrev w_Fifo_init : List Cond := Cond.code y_Fifo_init b_Fifo_init 2 none :: q_big
abbrev w_Fifo_empty : List Cond := Cond.code y_Fifo_empty b_Fifo_empty 1 none :: q_big
abbrev w_Fifo_hasRoomFor : List Cond := Cond.code y_Fifo_hasRoomFor b_Fifo_hasRoomFor 2 (some .boolean) :: q_big
abbrev w_Fifo_put : List Cond := Cond.code y_Fifo_put b_Fifo_put 3 none :: q_big
abbrev w_Fifo_take : List Cond := Cond.code y_Fifo_take b_Fifo_take 2 (some .int) :: q_big
abbrev w_Link_init : List Cond := Cond.code y_Link_init b_Link_init 1 none :: q_big
abbrev w_Link_begin : List Cond := Cond.code y_Link_begin b_Link_begin 2 none :: q_big
abbrev w_PlainRun_init : List Cond := Cond.code y_PlainRun_init b_PlainRun_init 2 none :: q_big
abbrev w_PlainRun_begin : List Cond := Cond.code y_PlainRun_begin b_PlainRun_begin 2 none :: q_big
abbrev w_PlainRun_step : List Cond := Cond.code y_PlainRun_step b_PlainRun_step 2 (some .boolean) :: q_big
abbrev w_PlainRun_perform : List Cond := Cond.code y_PlainRun_perform b_PlainRun_perform 3 none :: q_big
abbrev w_Program_init : List Cond := Cond.code y_Program_init b_Program_init 1 none :: q_big
abbrev w_Program_isSound : List Cond := Cond.code y_Program_isSound b_Program_isSound 4 (some .boolean) :: q_big
abbrev w_Program_append : List Cond := Cond.code y_Program_append b_Program_append 6 (some .int) :: q_big
abbrev w_Program_removeAll : List Cond := Cond.code y_Program_removeAll b_Program_removeAll 1 none :: q_big
abbrev w_Program_isAddressRegister : List Cond := Cond.code y_Program_isAddressRegister b_Program_isAddressRegister 2 (some .boolean) :: q_big
abbrev w_Program_isArithmetic : List Cond := Cond.code y_Program_isArithmetic b_Program_isArithmetic 2 (some .boolean) :: q_big
abbrev w_Program_isBranch : List Cond := Cond.code y_Program_isBranch b_Program_isBranch 2 (some .boolean) :: q_big
abbrev w_Program_slice : List Cond := Cond.code y_Program_slice b_Program_slice 2 none :: q_big
abbrev w_Program_findAddressRegisters : List Cond := Cond.code y_Program_findAddressRegisters b_Program_findAddressRegisters 3 none :: q_big
abbrev w_Program_belongsToAddresses : List Cond := Cond.code y_Program_belongsToAddresses b_Program_belongsToAddresses 2 (some .boolean) :: q_big
abbrev w_Program_findPassed : List Cond := Cond.code y_Program_findPassed b_Program_findPassed 5 none :: q_big
abbrev w_Program_findNothings : List Cond := Cond.code y_Program_findNothings b_Program_findNothings 4 none :: q_big
abbrev w_Program_firstRead : List Cond := Cond.code y_Program_firstRead b_Program_firstRead 2 (some .int) :: q_big
abbrev w_Program_secondRead : List Cond := Cond.code y_Program_secondRead b_Program_secondRead 2 (some .int) :: q_big
abbrev w_Run_init : List Cond := Cond.code y_Run_init b_Run_init 2 none :: q_big
abbrev w_Run_advance : List Cond := Cond.code y_Run_advance b_Run_advance 3 (some .int) :: q_big
abbrev w_Run_hasEnded : List Cond := Cond.code y_Run_hasEnded b_Run_hasEnded 1 (some .boolean) :: q_big
abbrev w_Run_position : List Cond := Cond.code y_Run_position b_Run_position 1 (some .int) :: q_big
abbrev w_Run_wordAddress : List Cond := Cond.code y_Run_wordAddress b_Run_wordAddress 2 (some .int) :: q_big
abbrev w_Run_behind : List Cond := Cond.code y_Run_behind b_Run_behind 3 (some .int) :: q_big
abbrev w_Run_test : List Cond := Cond.code y_Run_test b_Run_test 4 (some .boolean) :: q_big
abbrev w_Run_compute : List Cond := Cond.code y_Run_compute b_Run_compute 2 none :: q_big
abbrev w_Run_combined : List Cond := Cond.code y_Run_combined b_Run_combined 4 (some .int) :: q_big
abbrev w_StoreList_init : List Cond := Cond.code y_StoreList_init b_StoreList_init 2 none :: q_big
abbrev w_StoreList_empty : List Cond := Cond.code y_StoreList_empty b_StoreList_empty 1 none :: q_big
abbrev w_StoreList_isFull : List Cond := Cond.code y_StoreList_isFull b_StoreList_isFull 1 (some .boolean) :: q_big
abbrev w_StoreList_holds : List Cond := Cond.code y_StoreList_holds b_StoreList_holds 3 (some .boolean) :: q_big
abbrev w_StoreList_enter : List Cond := Cond.code y_StoreList_enter b_StoreList_enter 3 none :: q_big
abbrev w_StoreList_enterWith : List Cond := Cond.code y_StoreList_enterWith b_StoreList_enterWith 4 none :: q_big
abbrev w_StoreList_give : List Cond := Cond.code y_StoreList_give b_StoreList_give 2 (some .boolean) :: q_big
abbrev w_StoreList_know : List Cond := Cond.code y_StoreList_know b_StoreList_know 3 none :: q_big
abbrev w_StoreList_slot : List Cond := Cond.code y_StoreList_slot b_StoreList_slot 2 (some .int) :: q_big
abbrev w_Stream_init : List Cond := Cond.code y_Stream_init b_Stream_init 4 none :: q_big
abbrev w_Stream_begin : List Cond := Cond.code y_Stream_begin b_Stream_begin 1 none :: q_big
abbrev w_Stream_leaveFor : List Cond := Cond.code y_Stream_leaveFor b_Stream_leaveFor 2 (some .boolean) :: q_big
abbrev w_Stream_sendOutcome : List Cond := Cond.code y_Stream_sendOutcome b_Stream_sendOutcome 4 (some .boolean) :: q_big
abbrev w_Stream_followOutcome : List Cond := Cond.code y_Stream_followOutcome b_Stream_followOutcome 3 (some .boolean) :: q_big
abbrev w_Stream_goOver : List Cond := Cond.code y_Stream_goOver b_Stream_goOver 1 none :: q_big
abbrev w_ValueStream_init : List Cond := Cond.code y_ValueStream_init b_ValueStream_init 3 none :: q_big
abbrev w_ValueStream_begin : List Cond := Cond.code y_ValueStream_begin b_ValueStream_begin 1 none :: q_big
abbrev w_ValueStream_step : List Cond := Cond.code y_ValueStream_step b_ValueStream_step 1 (some .boolean) :: q_big
abbrev w_ValueStream_receiveLoad : List Cond := Cond.code y_ValueStream_receiveLoad b_ValueStream_receiveLoad 2 (some .boolean) :: q_big
abbrev w_ValueStream_doOwn : List Cond := Cond.code y_ValueStream_doOwn b_ValueStream_doOwn 3 (some .boolean) :: q_big
abbrev w_ValueStream_receive : List Cond := Cond.code y_ValueStream_receive b_ValueStream_receive 2 none :: q_big
abbrev w_ValueStream_giveStored : List Cond := Cond.code y_ValueStream_giveStored b_ValueStream_giveStored 3 (some .boolean) :: q_big
abbrev w_Written_init : List Cond := Cond.code y_Written_init b_Written_init 1 none :: q_big
abbrev w_Written_empty : List Cond := Cond.code y_Written_empty b_Written_empty 1 none :: q_big
abbrev w_Written_write : List Cond := Cond.code y_Written_write b_Written_write 2 none :: q_big
abbrev w_Written_thing : List Cond := Cond.code y_Written_thing b_Written_thing 2 (some .int) :: q_big
abbrev w_Object_init : List Cond := Cond.code y_Object_init b_Object_init 1 none :: q_big
abbrev w_Integer_bitCount : List Cond := Cond.code y_Integer_bitCount b_Integer_bitCount 1 (some .int) :: q_big
abbrev w_Math_min : List Cond := Cond.code y_Math_min b_Math_min 2 (some .int) :: q_big
abbrev w_Arrays_fill : List Cond := Cond.code y_Arrays_fill b_Arrays_fill 4 none :: q_big
end
section
-- a state of a side: its int fields (booleans as 0 and 1) by number, its arrays by number
abbrev ST : Type := (Nat → Int32) × (Nat → Nat → Int32)
abbrev OR : Type := Option (Int32 × ST)
def stI (s : ST) (k : Nat) (v : Int32) : ST := (upd s.1 k v, s.2)
def stA (s : ST) (k : Nat) (g : Nat → Int32) : ST := (s.1, fun j => if j = k then g else s.2 j)
-- the words of a pure text: a new state, a call, a place in range, a boolean
def bnd (x : ST) (f : ST → OR) : OR := f x
def obn (x : OR) (f : Int32 → ST → OR) : OR := match x with
  | none => none
  | some q => f q.1 q.2
def inR (i : Int32) (n : Nat) : Bool := decide (0 ≤ i.toInt ∧ i.toInt < n)
def gin (i : Int32) (n : Nat) (x : OR) : OR := if inR i n = true then x else none
def isB (v : Int32) : Bool := v == 0 || v == 1
def gib (v : Int32) (x : OR) : OR := if isB v = true then x else none
theorem bnd_e {x : ST} {f : ST → OR} {R : Int32 × ST} (h : bnd x f = some R) : ∃ z, z = x ∧ f z = some R := ⟨x, rfl, h⟩
theorem obn_e {x : OR} {f : Int32 → ST → OR} {R : Int32 × ST} (h : obn x f = some R) : ∃ r z, x = some (r, z) ∧ f r z = some R := by
  cases x with
  | none => cases h
  | some q => exact ⟨q.1, q.2, rfl, h⟩
theorem gin_e {i : Int32} {n : Nat} {x : OR} {R : Int32 × ST} (h : gin i n x = some R) : vp_in i n ∧ x = some R := by
  unfold gin at h
  by_cases hi : inR i n = true
  · rw [if_pos hi] at h
    exact ⟨vp_in_iff.mpr (of_decide_eq_true hi), h⟩
  · rw [if_neg hi] at h
    cases h
theorem gib_e {v : Int32} {x : OR} {R : Int32 × ST} (h : gib v x = some R) : (v = 0 ∨ v = 1) ∧ x = some R := by
  unfold gib at h
  by_cases hi : isB v = true
  · rw [if_pos hi] at h
    refine ⟨?_, h⟩
    unfold isB at hi
    simp only [Bool.or_eq_true, beq_iff_eq] at hi
    exact hi
  · rw [if_neg hi] at h
    cases h
theorem if_t {c : Prop} {i : Decidable c} {a b R : OR} (hc : c) (h : @ite OR c i a b = R) : a = R := by
  rw [if_pos hc] at h
  exact h
theorem if_f {c : Prop} {i : Decidable c} {a b R : OR} (hc : ¬ c) (h : @ite OR c i a b = R) : b = R := by
  rw [if_neg hc] at h
  exact h
theorem nB {v : Int32} (h : v = 0 ∨ v = 1) : narrow .boolean (.int v) = .int v := by
  rcases h with rfl | rfl <;> rfl
theorem fB {v : Int32} (h : v = 0 ∨ v = 1) : fits .boolean (.int v) = true := by
  rcases h with rfl | rfl <;> rfl
theorem vB {v : Int32} (h : v = 0 ∨ v = 1) : vp_nar .boolean v = v := by
  rcases h with rfl | rfl <;> rfl
-- contracts over a world that is a function of the state; no method here makes a cell
def qB (D : va_G) (cl : List vw_C) (w : ST → va_W) (A : Nat → Prop) (u : ST) (t : State) : Prop := va_P D cl (w u) t.heap ∧ va_D A (w u)
def qQi (D : va_G) (cl : List vw_C) (w : ST → va_W) (A : Nat → Prop) (R : Int32 × ST) : Array Value → State → Outcome → State → Prop := va_Qi (fun r u => (r, u) = R) (qB D cl w A) A
def qQv (D : va_G) (cl : List vw_C) (w : ST → va_W) (A : Nat → Prop) (R : Int32 × ST) : Array Value → State → Outcome → State → Prop := va_Qv (fun u => u = R.2) (qB D cl w A) A
def qPc (KK : State → Prop) (D : va_G) (cl : List vw_C) (w : ST → va_W) (av : List Value) (s0 : ST) (sz : Nat) : Array Value → State → Prop := va_Pc av (fun U => U.heap.size = sz ∧ va_P D cl (w s0) U.heap ∧ KK U ∧ va_D (fun _ => True) (w s0))
abbrev qR (fr lo : Nat) : Room := { frames := fr, cells := 0, slots := 0, locals := lo }
def qMi (l : Launch) (y : MethodName) (ws : List Cond) (fr lo : Nat) (KK : State → Prop) (D : va_G) (cl : List vw_C) (w : ST → va_W) (av : List Value) (s0 : ST) (R : Int32 × ST) : Prop :=
  ∀ sz : Nat, Met l y ws (qR fr lo) (qPc KK D cl w av s0 sz) (qQi D cl w (va_A (w s0) sz) R) 0 0 (va_A (w s0) sz)
def qMv (l : Launch) (y : MethodName) (ws : List Cond) (fr lo : Nat) (KK : State → Prop) (D : va_G) (cl : List vw_C) (w : ST → va_W) (av : List Value) (s0 : ST) (R : Int32 × ST) : Prop :=
  ∀ sz : Nat, Met l y ws (qR fr lo) (qPc KK D cl w av s0 sz) (qQv D cl w (va_A (w s0) sz) R) 0 0 (va_A (w s0) sz)
/-- what holds of the tables: it stays in a call and as the machine warms -/
def qOk (KK : State → Prop) : Prop := (∀ (a : Array Value) (U : State) (g : JFrame) (mk : MethodId), KK U → KK (U.calling g mk a)) ∧ ∀ s U : State, s.WarmedH U.vm → KK s → KK U
abbrev qWi (p : Program) (l : Launch) (e : Env) (ws : List Cond) (fr lo : Nat) (s : State) (m : MethodId) (av : List Value) (below : List Frame) (meth : Method) (c : Code) (D : va_G) (cl : List vw_C) (w : ST → va_W) (A : Nat → Prop) (R : Int32 × ST) (H : Heap) (locs : List Loc) (g : JFrame) : Prop :=
  W p l e (headSpec ws (qR fr lo)).room s m av.toArray below meth c H locs 0 0 (MQ below (qQi D cl w A R) av.toArray s 0 0 A) g
abbrev qWv (p : Program) (l : Launch) (e : Env) (ws : List Cond) (fr lo : Nat) (s : State) (m : MethodId) (av : List Value) (below : List Frame) (meth : Method) (c : Code) (D : va_G) (cl : List vw_C) (w : ST → va_W) (A : Nat → Prop) (R : Int32 × ST) (H : Heap) (locs : List Loc) (g : JFrame) : Prop :=
  W p l e (headSpec ws (qR fr lo)).room s m av.toArray below meth c H locs 0 0 (MQ below (qQv D cl w A R) av.toArray s 0 0 A) g
section QROWS
variable {p : Program} {l : Launch} {e : Env} {Rm : Room} {s : State} {m : MethodId} {args : Array Value} {below : List Frame} {meth : Method} {c : Code} {H : Heap} {locs : List Loc} {Q : State → Prop}
variable {cc : ByteArray} {pc : Nat} {ls : Array Slot} {rest st0 : List Value} {D : va_G} {cl : List vw_C} {A : Nat → Prop} {w : ST → va_W} {s0 s1 : ST} {R : Int32 × ST} {KK : State → Prop} {v : Int32}
theorem q_iret (hx : p.tables.exec = Jvm.exec) (hb : c.code = cc) (hr : meth.sig.returnType = some .int) (hlocks : meth.locks = false) (h : some (v, s0) = some R) (hP : va_P D cl (w s0) H) (hD : va_D A (w s0)) (hS : va_S A s.heap H locs) (hdg : decode cc pc = .ok (.ireturn, 1)) :
    W p l e Rm s m args below meth c H locs 0 0 (MQ below (qQi D cl w A R) args s 0 0 A) (F0 m pc ls [.int v]) :=
  W.iret hx hb hr (fun t ht _ => ⟨⟨v, s0, rfl, Option.some.inj h, by rw [ht]; exact hP, hD⟩, hS.F ht⟩) hS.2.2 hdg hlocks
theorem q_zret (hx : p.tables.exec = Jvm.exec) (hb : c.code = cc) (hr : meth.sig.returnType = some .boolean) (hlocks : meth.locks = false) (h0 : gib v (some (v, s0)) = some R) (hP : va_P D cl (w s0) H) (hD : va_D A (w s0)) (hS : va_S A s.heap H locs) (hdg : decode cc pc = .ok (.ireturn, 1)) :
    W p l e Rm s m args below meth c H locs 0 0 (MQ below (qQi D cl w A R) args s 0 0 A) (F0 m pc ls [.int v]) := by
  obtain ⟨hv, h⟩ := gib_e h0
  exact W.zret hx hb hr (nB hv) (fun t ht _ => ⟨⟨v, s0, rfl, Option.some.inj h, by rw [ht]; exact hP, hD⟩, hS.F ht⟩) hS.2.2 hdg hlocks
theorem q_vret (hx : p.tables.exec = Jvm.exec) (hb : c.code = cc) (hr : meth.sig.returnType = none) (hlocks : meth.locks = false) (h : some (v, s0) = some R) (hP : va_P D cl (w s0) H) (hD : va_D A (w s0)) (hS : va_S A s.heap H locs) (hdg : decode cc pc = .ok (.return_, 1)) :
    W p l e Rm s m args below meth c H locs 0 0 (MQ below (qQv D cl w A R) args s 0 0 A) (F0 m pc ls []) :=
  W.vret hx hb hr (fun t ht _ => ⟨⟨s0, rfl, by rw [← Option.some.inj h], by rw [ht]; exact hP, hD⟩, hS.F ht⟩) hS.2.2 hdg hlocks
theorem q_free (hD : va_D A (w s0)) (hS : va_S A s.heap H locs) (hA : ∀ q, s.heap.size ≤ q → A q) : ∀ q, va_A (w s0) H.size q → A q := by
  intro q h
  rcases h with ⟨k, e, h⟩ | h
  · exact hD.2 k _ h
  · exact hA q (Nat.le_trans hS.1 h)
/-- behind a call that answers an int -/
theorem q_goi {a : Array Value} {r1 : Int32} {z1 : ST} (hr : va_Run p l e Rm s m args below meth c H locs 0 0 0 0 (F0 m pc ls st0) rest (qQi D cl w (va_A (w s0) H.size) (r1, z1) a) (va_A (w s0) H.size)) (hD : va_D A (w s0)) (hS : va_S A s.heap H locs) (hA : ∀ q, s.heap.size ≤ q → A q)
    (kk : ∀ (H1 : Heap) (locs1 : List Loc), va_P D cl (w z1) H1 → va_D A (w z1) → va_S A s.heap H1 locs1 → W p l e Rm s m args below meth c H1 locs1 0 0 Q (F0 m (pc + 3) ls (.int r1 :: rest))) : W p l e Rm s m args below meth c H locs 0 0 Q (F0 m pc ls st0) := by
  have hF := q_free (w := w) hD hS hA
  refine va_calli hr hS (fun q _ h => hF q h) hF (fun r u t H1 locs1 ht _ hp hB _ _ hS1 => ?_)
  obtain ⟨hP1, hD1⟩ := hB
  cases hp
  rw [ht] at hP1
  exact kk H1 locs1 hP1 (hD1.weaken (fun k q _ h => hF q.1 h)) hS1
/-- behind a call that answers nothing -/
theorem q_gov {a : Array Value} {r1 : Int32} {z1 : ST} (hr : va_Run p l e Rm s m args below meth c H locs 0 0 0 0 (F0 m pc ls st0) rest (qQv D cl w (va_A (w s0) H.size) (r1, z1) a) (va_A (w s0) H.size)) (hD : va_D A (w s0)) (hS : va_S A s.heap H locs) (hA : ∀ q, s.heap.size ≤ q → A q)
    (kk : ∀ (H1 : Heap) (locs1 : List Loc), va_P D cl (w z1) H1 → va_D A (w z1) → va_S A s.heap H1 locs1 → W p l e Rm s m args below meth c H1 locs1 0 0 Q (F0 m (pc + 3) ls rest)) : W p l e Rm s m args below meth c H locs 0 0 Q (F0 m pc ls st0) := by
  have hF := q_free (w := w) hD hS hA
  refine va_callv hr hS (fun q _ h => hF q h) hF (fun u t H1 locs1 ht _ hp hB _ _ hS1 => ?_)
  obtain ⟨hP1, hD1⟩ := hB
  cases hp
  rw [ht] at hP1
  exact kk H1 locs1 hP1 (hD1.weaken (fun k q _ h => hF q.1 h)) hS1
theorem q_preV {C : String} {b : Nat} {As : List Value} (hok : qOk KK) (hK : KK s) (hP : va_P D cl (w s0) H) (hD : va_D A (w s0)) (hrec : ∃ cell : Cell, H[b]? = some cell ∧ cell.vm.isStatics = false ∧ s.vm.findClass C = some cell.cls) : PreV s H C b (qPc KK D cl w (.ref b :: As) s0 H.size) As :=
  ⟨fun a U g mk q => ⟨q.1, q.2.1, q.2.2.1, hok.1 a U g mk q.2.2.2.1, q.2.2.2.2⟩, hrec, fun U hU hW => ⟨rfl, by rw [hU], by rw [hU]; exact hP, hok.2 s U hW hK, hD.weaken (fun _ _ _ _ => trivial)⟩⟩
theorem q_preS {As : List Value} (hok : qOk KK) (hK : KK s) (hP : va_P D cl (w s0) H) (hD : va_D A (w s0)) : PreS s H (qPc KK D cl w As s0 H.size) As :=
  ⟨fun a U g mk q => ⟨q.1, q.2.1, q.2.2.1, hok.1 a U g mk q.2.2.2.1, q.2.2.2.2⟩, fun U hU hW => ⟨rfl, by rw [hU], by rw [hU]; exact hP, hok.2 s U hW hK, hD.weaken (fun _ _ _ _ => trivial)⟩⟩
end QROWS
end
section
def wX (cI cZ : ClassId) (ad : Nat → Nat) (z : ST) : va_W := [
  (ad 0, .inr (0, [.ref (ad 1), .ref (ad 12), .ref (ad 13), .ref (ad 29), .ref (ad 31), .ref (ad 35), .int (z.1 0)])),
  (ad 1, .inr (1, [.ref (ad 2), .ref (ad 3), .ref (ad 4), .ref (ad 5), .ref (ad 6), .ref (ad 7), .ref (ad 8), .ref (ad 9), .ref (ad 10), .ref (ad 11), .int (z.1 1), .int (z.1 2)])),
  (ad 2, .inl (cI, 24, .inl (z.2 0))),
  (ad 3, .inl (cI, 24, .inl (z.2 1))),
  (ad 4, .inl (cI, 24, .inl (z.2 2))),
  (ad 5, .inl (cI, 24, .inl (z.2 3))),
  (ad 6, .inl (cI, 24, .inl (z.2 4))),
  (ad 7, .inl (cI, 24, .inl (z.2 5))),
  (ad 8, .inl (cI, 24, .inl (z.2 6))),
  (ad 9, .inl (cI, 24, .inl (z.2 7))),
  (ad 10, .inl (cZ, 24, .inl (z.2 8))),
  (ad 11, .inl (cZ, 24, .inl (z.2 9))),
  (ad 12, .inl (cI, 32, .inl (z.2 10))),
  (ad 13, .inr (2, [.ref (ad 14), .ref (ad 15), .ref (ad 16), .ref (ad 17), .ref (ad 18), .ref (ad 19), .ref (ad 25)])),
  (ad 14, .inl (cI, 32, .inl (z.2 11))),
  (ad 15, .inr (3, [.ref (ad 20), .int (z.1 3), .int (z.1 4)])),
  (ad 16, .inr (3, [.ref (ad 21), .int (z.1 5), .int (z.1 6)])),
  (ad 17, .inr (3, [.ref (ad 22), .int (z.1 7), .int (z.1 8)])),
  (ad 18, .inr (3, [.ref (ad 23), .int (z.1 9), .int (z.1 10)])),
  (ad 19, .inr (3, [.ref (ad 24), .int (z.1 11), .int (z.1 12)])),
  (ad 20, .inl (cI, 4, .inl (z.2 12))),
  (ad 21, .inl (cI, 4, .inl (z.2 13))),
  (ad 22, .inl (cI, 4, .inl (z.2 14))),
  (ad 23, .inl (cI, 4, .inl (z.2 15))),
  (ad 24, .inl (cI, 6, .inl (z.2 16))),
  (ad 25, .inr (4, [.ref (ad 14), .ref (ad 26), .ref (ad 27), .ref (ad 28), .int (z.1 13), .int (z.1 14)])),
  (ad 26, .inl (cI, 6, .inl (z.2 17))),
  (ad 27, .inl (cI, 6, .inl (z.2 18))),
  (ad 28, .inl (cZ, 6, .inl (z.2 19))),
  (ad 29, .inr (5, [.int (z.1 17), .ref (ad 13), .ref (ad 10), .int (z.1 16), .ref (ad 1), .ref (ad 30), .int (z.1 15)])),
  (ad 30, .inl (cI, 8, .inl (z.2 20))),
  (ad 31, .inr (6, [.ref (ad 33), .ref (ad 13), .ref (ad 11), .int (z.1 19), .ref (ad 1), .ref (ad 32), .int (z.1 18)])),
  (ad 32, .inl (cI, 8, .inl (z.2 21))),
  (ad 33, .inr (7, [.ref (ad 34), .int (z.1 20)])),
  (ad 34, .inl (cI, 64, .inl (z.2 22))),
  (ad 35, .inr (8, [.ref (ad 37), .ref (ad 38), .ref (ad 1), .ref (ad 36), .int (z.1 21)])),
  (ad 36, .inl (cI, 8, .inl (z.2 23))),
  (ad 37, .inl (cI, 32, .inl (z.2 24))),
  (ad 38, .inr (7, [.ref (ad 39), .int (z.1 22)])),
  (ad 39, .inl (cI, 64, .inl (z.2 25)))]
def wM (cI cZ : ClassId) (ad : Nat → Nat) (z : ST) : va_W := [
  (ad 0, .inr (9, [.int (z.1 0), .ref (ad 1), .ref (ad 2), .ref (ad 3), .ref (ad 4), .int (z.1 1), .int (z.1 2), .ref (ad 5), .ref (ad 6), .ref (ad 7), .ref (ad 8), .int (z.1 3), .ref (ad 9), .int (z.1 4), .int (z.1 5), .ref (ad 10), .ref (ad 11), .int (z.1 6), .ref (ad 12), .ref (ad 13), .ref (ad 14), .ref (ad 15), .ref (ad 16), .int (z.1 7), .ref (ad 17), .int (z.1 8), .int (z.1 9)])),
  (ad 1, .inl (cI, 24, .inl (z.2 0))),
  (ad 2, .inl (cI, 24, .inl (z.2 1))),
  (ad 3, .inl (cI, 24, .inl (z.2 2))),
  (ad 4, .inl (cI, 24, .inl (z.2 3))),
  (ad 5, .inl (cZ, 8, .inl (z.2 4))),
  (ad 6, .inl (cI, 16, .inl (z.2 5))),
  (ad 7, .inl (cI, 2, .inl (z.2 6))),
  (ad 8, .inl (cI, 2, .inl (z.2 7))),
  (ad 9, .inl (cI, 32, .inl (z.2 8))),
  (ad 10, .inl (cI, 30, .inl (z.2 9))),
  (ad 11, .inl (cI, 5, .inl (z.2 10))),
  (ad 12, .inl (cI, 6, .inl (z.2 11))),
  (ad 13, .inl (cI, 6, .inl (z.2 12))),
  (ad 14, .inl (cZ, 6, .inl (z.2 13))),
  (ad 15, .inl (cI, 8, .inl (z.2 14))),
  (ad 16, .inl (cI, 32, .inl (z.2 15))),
  (ad 17, .inl (cI, 128, .inl (z.2 16)))]
/-- what holds of the tables: the classes and array classes; a private method of a nest mate; an abstract method -/
def KX (dC : Nat → ClassId) (dI : Nat → Nat → Nat) (cI cZ : ClassId) (U : State) : Prop := va_K (dC, dI) q_cl [(cI, .int), (cZ, .boolean)] U ∧ va_Nw (.methodLinkNest "SlippedStreams$Program" 43 ⟨"SlippedStreams", "isRegister", "(I)Z"⟩ "SlippedStreams") U ∧ va_Nw (.declares ⟨"SlippedStreams$Run", "step", "()Z"⟩) U
theorem qok {dC : Nat → ClassId} {dI : Nat → Nat → Nat} {cI cZ : ClassId} : qOk (KX dC dI cI cZ) :=
  ⟨fun a U g mk h => ⟨va_K.moved (u := U) (U := U.calling g mk a) (Vm.Alike.refl U.vm) h.1, va_Nw.same rfl rfl h.2.1, va_Nw.same rfl rfl h.2.2⟩, fun s U hW h => ⟨va_K.moved hW.alike h.1, va_Nw.warmM hW h.2.1, va_Nw.warmD hW h.2.2⟩⟩
end
section
section ROWSx
variable {p : Program} {l : Launch} {e : Env} {Rm : Room} {s : State} {m : MethodId} {args : Array Value} {below : List Frame} {meth : Method} {c : Code} {H H0 : Heap} {locs : List Loc} {Q : State → Prop}
variable {cc : ByteArray} {pc : Nat} {ls : Array Slot} {rest : List Value} {A : Nat → Prop} {dC : Nat → ClassId} {dI : Nat → Nat → Nat} {cI cZ : ClassId} {ad : Nat → Nat} {z0 z1 : ST} {v i : Int32} {own ref : String} {index : Nat} {Ts : List Cond}
theorem xg_0_program (hx : p.tables.exec = Jvm.exec) (hb : c.code = cc) (hts : ∀ w ∈ Ts, w.before args s = true) (hin : ∀ w ∈ u_ws R_SlippedStreams F_SlippedStreams 7, w ∈ Ts) (hown : s.vm.findClass own = some m.cls) (hK : va_K (dC, dI) q_cl [(cI, .int), (cZ, .boolean)] s) (hP : va_P (dC, dI) q_cl (wX cI cZ ad z0) H) (hlink : (Cond.fieldLink own index ref "program" "LSlippedStreams$Program;").before args s = true) (hsame : ∀ x, s.fieldFound? "SlippedStreams" "program" "LSlippedStreams$Program;" = some x → s.fieldFound? ref "program" "LSlippedStreams$Program;" = some x) (hdg : decode cc pc = .ok (.getfield index, 3)) (kk : W p l e Rm s m args below meth c H locs 0 0 Q (F0 m (pc + 3) ls (.ref (ad 1) :: rest))) : W p l e Rm s m args below meth c H locs 0 0 Q (F0 m pc ls (.ref (ad 0) :: rest)) :=
  va_get (D := (dC, dI)) (ci := 0) hx hb hts hin hown hK hP 0 rfl rfl 0 (by decide) hlink hsame rfl hdg kk
theorem xg_0_filled (hx : p.tables.exec = Jvm.exec) (hb : c.code = cc) (hts : ∀ w ∈ Ts, w.before args s = true) (hin : ∀ w ∈ u_ws R_SlippedStreams F_SlippedStreams 7, w ∈ Ts) (hown : s.vm.findClass own = some m.cls) (hK : va_K (dC, dI) q_cl [(cI, .int), (cZ, .boolean)] s) (hP : va_P (dC, dI) q_cl (wX cI cZ ad z0) H) (hlink : (Cond.fieldLink own index ref "filled" "[I").before args s = true) (hsame : ∀ x, s.fieldFound? "SlippedStreams" "filled" "[I" = some x → s.fieldFound? ref "filled" "[I" = some x) (hdg : decode cc pc = .ok (.getfield index, 3)) (kk : W p l e Rm s m args below meth c H locs 0 0 Q (F0 m (pc + 3) ls (.ref (ad 12) :: rest))) : W p l e Rm s m args below meth c H locs 0 0 Q (F0 m pc ls (.ref (ad 0) :: rest)) :=
  va_get (D := (dC, dI)) (ci := 0) hx hb hts hin hown hK hP 0 rfl rfl 1 (by decide) hlink hsame rfl hdg kk
theorem xg_0_link (hx : p.tables.exec = Jvm.exec) (hb : c.code = cc) (hts : ∀ w ∈ Ts, w.before args s = true) (hin : ∀ w ∈ u_ws R_SlippedStreams F_SlippedStreams 7, w ∈ Ts) (hown : s.vm.findClass own = some m.cls) (hK : va_K (dC, dI) q_cl [(cI, .int), (cZ, .boolean)] s) (hP : va_P (dC, dI) q_cl (wX cI cZ ad z0) H) (hlink : (Cond.fieldLink own index ref "link" "LSlippedStreams$Link;").before args s = true) (hsame : ∀ x, s.fieldFound? "SlippedStreams" "link" "LSlippedStreams$Link;" = some x → s.fieldFound? ref "link" "LSlippedStreams$Link;" = some x) (hdg : decode cc pc = .ok (.getfield index, 3)) (kk : W p l e Rm s m args below meth c H locs 0 0 Q (F0 m (pc + 3) ls (.ref (ad 13) :: rest))) : W p l e Rm s m args below meth c H locs 0 0 Q (F0 m pc ls (.ref (ad 0) :: rest)) :=
  va_get (D := (dC, dI)) (ci := 0) hx hb hts hin hown hK hP 0 rfl rfl 2 (by decide) hlink hsame rfl hdg kk
theorem xg_0_addressStream (hx : p.tables.exec = Jvm.exec) (hb : c.code = cc) (hts : ∀ w ∈ Ts, w.before args s = true) (hin : ∀ w ∈ u_ws R_SlippedStreams F_SlippedStreams 7, w ∈ Ts) (hown : s.vm.findClass own = some m.cls) (hK : va_K (dC, dI) q_cl [(cI, .int), (cZ, .boolean)] s) (hP : va_P (dC, dI) q_cl (wX cI cZ ad z0) H) (hlink : (Cond.fieldLink own index ref "addressStream" "LSlippedStreams$AddressStream;").before args s = true) (hsame : ∀ x, s.fieldFound? "SlippedStreams" "addressStream" "LSlippedStreams$AddressStream;" = some x → s.fieldFound? ref "addressStream" "LSlippedStreams$AddressStream;" = some x) (hdg : decode cc pc = .ok (.getfield index, 3)) (kk : W p l e Rm s m args below meth c H locs 0 0 Q (F0 m (pc + 3) ls (.ref (ad 29) :: rest))) : W p l e Rm s m args below meth c H locs 0 0 Q (F0 m pc ls (.ref (ad 0) :: rest)) :=
  va_get (D := (dC, dI)) (ci := 0) hx hb hts hin hown hK hP 0 rfl rfl 3 (by decide) hlink hsame rfl hdg kk
theorem xg_0_valueStream (hx : p.tables.exec = Jvm.exec) (hb : c.code = cc) (hts : ∀ w ∈ Ts, w.before args s = true) (hin : ∀ w ∈ u_ws R_SlippedStreams F_SlippedStreams 7, w ∈ Ts) (hown : s.vm.findClass own = some m.cls) (hK : va_K (dC, dI) q_cl [(cI, .int), (cZ, .boolean)] s) (hP : va_P (dC, dI) q_cl (wX cI cZ ad z0) H) (hlink : (Cond.fieldLink own index ref "valueStream" "LSlippedStreams$ValueStream;").before args s = true) (hsame : ∀ x, s.fieldFound? "SlippedStreams" "valueStream" "LSlippedStreams$ValueStream;" = some x → s.fieldFound? ref "valueStream" "LSlippedStreams$ValueStream;" = some x) (hdg : decode cc pc = .ok (.getfield index, 3)) (kk : W p l e Rm s m args below meth c H locs 0 0 Q (F0 m (pc + 3) ls (.ref (ad 31) :: rest))) : W p l e Rm s m args below meth c H locs 0 0 Q (F0 m pc ls (.ref (ad 0) :: rest)) :=
  va_get (D := (dC, dI)) (ci := 0) hx hb hts hin hown hK hP 0 rfl rfl 4 (by decide) hlink hsame rfl hdg kk
theorem xg_0_plainRun (hx : p.tables.exec = Jvm.exec) (hb : c.code = cc) (hts : ∀ w ∈ Ts, w.before args s = true) (hin : ∀ w ∈ u_ws R_SlippedStreams F_SlippedStreams 7, w ∈ Ts) (hown : s.vm.findClass own = some m.cls) (hK : va_K (dC, dI) q_cl [(cI, .int), (cZ, .boolean)] s) (hP : va_P (dC, dI) q_cl (wX cI cZ ad z0) H) (hlink : (Cond.fieldLink own index ref "plainRun" "LSlippedStreams$PlainRun;").before args s = true) (hsame : ∀ x, s.fieldFound? "SlippedStreams" "plainRun" "LSlippedStreams$PlainRun;" = some x → s.fieldFound? ref "plainRun" "LSlippedStreams$PlainRun;" = some x) (hdg : decode cc pc = .ok (.getfield index, 3)) (kk : W p l e Rm s m args below meth c H locs 0 0 Q (F0 m (pc + 3) ls (.ref (ad 35) :: rest))) : W p l e Rm s m args below meth c H locs 0 0 Q (F0 m pc ls (.ref (ad 0) :: rest)) :=
  va_get (D := (dC, dI)) (ci := 0) hx hb hts hin hown hK hP 0 rfl rfl 5 (by decide) hlink hsame rfl hdg kk
theorem xg_0_lost (hx : p.tables.exec = Jvm.exec) (hb : c.code = cc) (hts : ∀ w ∈ Ts, w.before args s = true) (hin : ∀ w ∈ u_ws R_SlippedStreams F_SlippedStreams 7, w ∈ Ts) (hown : s.vm.findClass own = some m.cls) (hK : va_K (dC, dI) q_cl [(cI, .int), (cZ, .boolean)] s) (hP : va_P (dC, dI) q_cl (wX cI cZ ad z0) H) (hlink : (Cond.fieldLink own index ref "lost" "I").before args s = true) (hsame : ∀ x, s.fieldFound? "SlippedStreams" "lost" "I" = some x → s.fieldFound? ref "lost" "I" = some x) (hdg : decode cc pc = .ok (.getfield index, 3)) (kk : W p l e Rm s m args below meth c H locs 0 0 Q (F0 m (pc + 3) ls (.int (z0.1 0) :: rest))) : W p l e Rm s m args below meth c H locs 0 0 Q (F0 m pc ls (.ref (ad 0) :: rest)) :=
  va_get (D := (dC, dI)) (ci := 0) hx hb hts hin hown hK hP 0 rfl rfl 6 (by decide) hlink hsame rfl hdg kk
theorem xp_0_lost (hx : p.tables.exec = Jvm.exec) (hb : c.code = cc) (hts : ∀ w ∈ Ts, w.before args s = true) (hin : ∀ w ∈ u_ws R_SlippedStreams F_SlippedStreams 7, w ∈ Ts) (hown : s.vm.findClass own = some m.cls) (hK : va_K (dC, dI) q_cl [(cI, .int), (cZ, .boolean)] s) (hP : va_P (dC, dI) q_cl (wX cI cZ ad z0) H) (hD : va_D A (wX cI cZ ad z0)) (hS : va_S A H0 H locs) (hlink : (Cond.fieldLink own index ref "lost" "I").before args s = true) (hsame : ∀ x, s.fieldFound? "SlippedStreams" "lost" "I" = some x → s.fieldFound? ref "lost" "I" = some x) (hdg : decode cc pc = .ok (.putfield index, 3)) (es : z1 = stI z0 0 v) (kk : ∀ (H1 : Heap) (locs1 : List Loc), va_P (dC, dI) q_cl (wX cI cZ ad z1) H1 → va_D A (wX cI cZ ad z1) → va_S A H0 H1 locs1 → W p l e Rm s m args below meth c H1 locs1 0 0 Q (F0 m (pc + 3) ls rest)) : W p l e Rm s m args below meth c H locs 0 0 Q (F0 m pc ls (.int v :: .ref (ad 0) :: rest)) := by
  subst es
  exact va_put (D := (dC, dI)) (ci := 0) (ty := .int) hx hb hts hin t_SlippedStreams t_SlippedStreams_ok n_SlippedStreams hown hK hP hD hS 0 rfl rfl 6 (by decide) hlink hsame rfl (by decide +kernel) rfl rfl (Nat.le_of_ble_eq_true rfl) hdg (fun H1 locs1 a b d => kk H1 locs1 a b d)
theorem xg_1_kinds (hx : p.tables.exec = Jvm.exec) (hb : c.code = cc) (hts : ∀ w ∈ Ts, w.before args s = true) (hin : ∀ w ∈ u_ws R_Program F_Program 12, w ∈ Ts) (hown : s.vm.findClass own = some m.cls) (hK : va_K (dC, dI) q_cl [(cI, .int), (cZ, .boolean)] s) (hP : va_P (dC, dI) q_cl (wX cI cZ ad z0) H) (hlink : (Cond.fieldLink own index ref "kinds" "[I").before args s = true) (hsame : ∀ x, s.fieldFound? "SlippedStreams$Program" "kinds" "[I" = some x → s.fieldFound? ref "kinds" "[I" = some x) (hdg : decode cc pc = .ok (.getfield index, 3)) (kk : W p l e Rm s m args below meth c H locs 0 0 Q (F0 m (pc + 3) ls (.ref (ad 2) :: rest))) : W p l e Rm s m args below meth c H locs 0 0 Q (F0 m pc ls (.ref (ad 1) :: rest)) :=
  va_get (D := (dC, dI)) (ci := 1) hx hb hts hin hown hK hP 1 rfl rfl 0 (by decide) hlink hsame rfl hdg kk
theorem xg_1_as (hx : p.tables.exec = Jvm.exec) (hb : c.code = cc) (hts : ∀ w ∈ Ts, w.before args s = true) (hin : ∀ w ∈ u_ws R_Program F_Program 12, w ∈ Ts) (hown : s.vm.findClass own = some m.cls) (hK : va_K (dC, dI) q_cl [(cI, .int), (cZ, .boolean)] s) (hP : va_P (dC, dI) q_cl (wX cI cZ ad z0) H) (hlink : (Cond.fieldLink own index ref "as" "[I").before args s = true) (hsame : ∀ x, s.fieldFound? "SlippedStreams$Program" "as" "[I" = some x → s.fieldFound? ref "as" "[I" = some x) (hdg : decode cc pc = .ok (.getfield index, 3)) (kk : W p l e Rm s m args below meth c H locs 0 0 Q (F0 m (pc + 3) ls (.ref (ad 3) :: rest))) : W p l e Rm s m args below meth c H locs 0 0 Q (F0 m pc ls (.ref (ad 1) :: rest)) :=
  va_get (D := (dC, dI)) (ci := 1) hx hb hts hin hown hK hP 1 rfl rfl 1 (by decide) hlink hsame rfl hdg kk
theorem xg_1_bs (hx : p.tables.exec = Jvm.exec) (hb : c.code = cc) (hts : ∀ w ∈ Ts, w.before args s = true) (hin : ∀ w ∈ u_ws R_Program F_Program 12, w ∈ Ts) (hown : s.vm.findClass own = some m.cls) (hK : va_K (dC, dI) q_cl [(cI, .int), (cZ, .boolean)] s) (hP : va_P (dC, dI) q_cl (wX cI cZ ad z0) H) (hlink : (Cond.fieldLink own index ref "bs" "[I").before args s = true) (hsame : ∀ x, s.fieldFound? "SlippedStreams$Program" "bs" "[I" = some x → s.fieldFound? ref "bs" "[I" = some x) (hdg : decode cc pc = .ok (.getfield index, 3)) (kk : W p l e Rm s m args below meth c H locs 0 0 Q (F0 m (pc + 3) ls (.ref (ad 4) :: rest))) : W p l e Rm s m args below meth c H locs 0 0 Q (F0 m pc ls (.ref (ad 1) :: rest)) :=
  va_get (D := (dC, dI)) (ci := 1) hx hb hts hin hown hK hP 1 rfl rfl 2 (by decide) hlink hsame rfl hdg kk
theorem xg_1_cs (hx : p.tables.exec = Jvm.exec) (hb : c.code = cc) (hts : ∀ w ∈ Ts, w.before args s = true) (hin : ∀ w ∈ u_ws R_Program F_Program 12, w ∈ Ts) (hown : s.vm.findClass own = some m.cls) (hK : va_K (dC, dI) q_cl [(cI, .int), (cZ, .boolean)] s) (hP : va_P (dC, dI) q_cl (wX cI cZ ad z0) H) (hlink : (Cond.fieldLink own index ref "cs" "[I").before args s = true) (hsame : ∀ x, s.fieldFound? "SlippedStreams$Program" "cs" "[I" = some x → s.fieldFound? ref "cs" "[I" = some x) (hdg : decode cc pc = .ok (.getfield index, 3)) (kk : W p l e Rm s m args below meth c H locs 0 0 Q (F0 m (pc + 3) ls (.ref (ad 5) :: rest))) : W p l e Rm s m args below meth c H locs 0 0 Q (F0 m pc ls (.ref (ad 1) :: rest)) :=
  va_get (D := (dC, dI)) (ci := 1) hx hb hts hin hown hK hP 1 rfl rfl 3 (by decide) hlink hsame rfl hdg kk
theorem xg_1_streams (hx : p.tables.exec = Jvm.exec) (hb : c.code = cc) (hts : ∀ w ∈ Ts, w.before args s = true) (hin : ∀ w ∈ u_ws R_Program F_Program 12, w ∈ Ts) (hown : s.vm.findClass own = some m.cls) (hK : va_K (dC, dI) q_cl [(cI, .int), (cZ, .boolean)] s) (hP : va_P (dC, dI) q_cl (wX cI cZ ad z0) H) (hlink : (Cond.fieldLink own index ref "streams" "[I").before args s = true) (hsame : ∀ x, s.fieldFound? "SlippedStreams$Program" "streams" "[I" = some x → s.fieldFound? ref "streams" "[I" = some x) (hdg : decode cc pc = .ok (.getfield index, 3)) (kk : W p l e Rm s m args below meth c H locs 0 0 Q (F0 m (pc + 3) ls (.ref (ad 6) :: rest))) : W p l e Rm s m args below meth c H locs 0 0 Q (F0 m pc ls (.ref (ad 1) :: rest)) :=
  va_get (D := (dC, dI)) (ci := 1) hx hb hts hin hown hK hP 1 rfl rfl 4 (by decide) hlink hsame rfl hdg kk
theorem xg_1_firstPassed (hx : p.tables.exec = Jvm.exec) (hb : c.code = cc) (hts : ∀ w ∈ Ts, w.before args s = true) (hin : ∀ w ∈ u_ws R_Program F_Program 12, w ∈ Ts) (hown : s.vm.findClass own = some m.cls) (hK : va_K (dC, dI) q_cl [(cI, .int), (cZ, .boolean)] s) (hP : va_P (dC, dI) q_cl (wX cI cZ ad z0) H) (hlink : (Cond.fieldLink own index ref "firstPassed" "[I").before args s = true) (hsame : ∀ x, s.fieldFound? "SlippedStreams$Program" "firstPassed" "[I" = some x → s.fieldFound? ref "firstPassed" "[I" = some x) (hdg : decode cc pc = .ok (.getfield index, 3)) (kk : W p l e Rm s m args below meth c H locs 0 0 Q (F0 m (pc + 3) ls (.ref (ad 7) :: rest))) : W p l e Rm s m args below meth c H locs 0 0 Q (F0 m pc ls (.ref (ad 1) :: rest)) :=
  va_get (D := (dC, dI)) (ci := 1) hx hb hts hin hown hK hP 1 rfl rfl 5 (by decide) hlink hsame rfl hdg kk
theorem xg_1_secondPassed (hx : p.tables.exec = Jvm.exec) (hb : c.code = cc) (hts : ∀ w ∈ Ts, w.before args s = true) (hin : ∀ w ∈ u_ws R_Program F_Program 12, w ∈ Ts) (hown : s.vm.findClass own = some m.cls) (hK : va_K (dC, dI) q_cl [(cI, .int), (cZ, .boolean)] s) (hP : va_P (dC, dI) q_cl (wX cI cZ ad z0) H) (hlink : (Cond.fieldLink own index ref "secondPassed" "[I").before args s = true) (hsame : ∀ x, s.fieldFound? "SlippedStreams$Program" "secondPassed" "[I" = some x → s.fieldFound? ref "secondPassed" "[I" = some x) (hdg : decode cc pc = .ok (.getfield index, 3)) (kk : W p l e Rm s m args below meth c H locs 0 0 Q (F0 m (pc + 3) ls (.ref (ad 8) :: rest))) : W p l e Rm s m args below meth c H locs 0 0 Q (F0 m pc ls (.ref (ad 1) :: rest)) :=
  va_get (D := (dC, dI)) (ci := 1) hx hb hts hin hown hK hP 1 rfl rfl 6 (by decide) hlink hsame rfl hdg kk
theorem xg_1_passedCounts (hx : p.tables.exec = Jvm.exec) (hb : c.code = cc) (hts : ∀ w ∈ Ts, w.before args s = true) (hin : ∀ w ∈ u_ws R_Program F_Program 12, w ∈ Ts) (hown : s.vm.findClass own = some m.cls) (hK : va_K (dC, dI) q_cl [(cI, .int), (cZ, .boolean)] s) (hP : va_P (dC, dI) q_cl (wX cI cZ ad z0) H) (hlink : (Cond.fieldLink own index ref "passedCounts" "[I").before args s = true) (hsame : ∀ x, s.fieldFound? "SlippedStreams$Program" "passedCounts" "[I" = some x → s.fieldFound? ref "passedCounts" "[I" = some x) (hdg : decode cc pc = .ok (.getfield index, 3)) (kk : W p l e Rm s m args below meth c H locs 0 0 Q (F0 m (pc + 3) ls (.ref (ad 9) :: rest))) : W p l e Rm s m args below meth c H locs 0 0 Q (F0 m pc ls (.ref (ad 1) :: rest)) :=
  va_get (D := (dC, dI)) (ci := 1) hx hb hts hin hown hK hP 1 rfl rfl 7 (by decide) hlink hsame rfl hdg kk
theorem xg_1_nothingForAddresses (hx : p.tables.exec = Jvm.exec) (hb : c.code = cc) (hts : ∀ w ∈ Ts, w.before args s = true) (hin : ∀ w ∈ u_ws R_Program F_Program 12, w ∈ Ts) (hown : s.vm.findClass own = some m.cls) (hK : va_K (dC, dI) q_cl [(cI, .int), (cZ, .boolean)] s) (hP : va_P (dC, dI) q_cl (wX cI cZ ad z0) H) (hlink : (Cond.fieldLink own index ref "nothingForAddresses" "[Z").before args s = true) (hsame : ∀ x, s.fieldFound? "SlippedStreams$Program" "nothingForAddresses" "[Z" = some x → s.fieldFound? ref "nothingForAddresses" "[Z" = some x) (hdg : decode cc pc = .ok (.getfield index, 3)) (kk : W p l e Rm s m args below meth c H locs 0 0 Q (F0 m (pc + 3) ls (.ref (ad 10) :: rest))) : W p l e Rm s m args below meth c H locs 0 0 Q (F0 m pc ls (.ref (ad 1) :: rest)) :=
  va_get (D := (dC, dI)) (ci := 1) hx hb hts hin hown hK hP 1 rfl rfl 8 (by decide) hlink hsame rfl hdg kk
theorem xg_1_nothingForValues (hx : p.tables.exec = Jvm.exec) (hb : c.code = cc) (hts : ∀ w ∈ Ts, w.before args s = true) (hin : ∀ w ∈ u_ws R_Program F_Program 12, w ∈ Ts) (hown : s.vm.findClass own = some m.cls) (hK : va_K (dC, dI) q_cl [(cI, .int), (cZ, .boolean)] s) (hP : va_P (dC, dI) q_cl (wX cI cZ ad z0) H) (hlink : (Cond.fieldLink own index ref "nothingForValues" "[Z").before args s = true) (hsame : ∀ x, s.fieldFound? "SlippedStreams$Program" "nothingForValues" "[Z" = some x → s.fieldFound? ref "nothingForValues" "[Z" = some x) (hdg : decode cc pc = .ok (.getfield index, 3)) (kk : W p l e Rm s m args below meth c H locs 0 0 Q (F0 m (pc + 3) ls (.ref (ad 11) :: rest))) : W p l e Rm s m args below meth c H locs 0 0 Q (F0 m pc ls (.ref (ad 1) :: rest)) :=
  va_get (D := (dC, dI)) (ci := 1) hx hb hts hin hown hK hP 1 rfl rfl 9 (by decide) hlink hsame rfl hdg kk
theorem xg_1_size (hx : p.tables.exec = Jvm.exec) (hb : c.code = cc) (hts : ∀ w ∈ Ts, w.before args s = true) (hin : ∀ w ∈ u_ws R_Program F_Program 12, w ∈ Ts) (hown : s.vm.findClass own = some m.cls) (hK : va_K (dC, dI) q_cl [(cI, .int), (cZ, .boolean)] s) (hP : va_P (dC, dI) q_cl (wX cI cZ ad z0) H) (hlink : (Cond.fieldLink own index ref "size" "I").before args s = true) (hsame : ∀ x, s.fieldFound? "SlippedStreams$Program" "size" "I" = some x → s.fieldFound? ref "size" "I" = some x) (hdg : decode cc pc = .ok (.getfield index, 3)) (kk : W p l e Rm s m args below meth c H locs 0 0 Q (F0 m (pc + 3) ls (.int (z0.1 1) :: rest))) : W p l e Rm s m args below meth c H locs 0 0 Q (F0 m pc ls (.ref (ad 1) :: rest)) :=
  va_get (D := (dC, dI)) (ci := 1) hx hb hts hin hown hK hP 1 rfl rfl 10 (by decide) hlink hsame rfl hdg kk
theorem xp_1_size (hx : p.tables.exec = Jvm.exec) (hb : c.code = cc) (hts : ∀ w ∈ Ts, w.before args s = true) (hin : ∀ w ∈ u_ws R_Program F_Program 12, w ∈ Ts) (hown : s.vm.findClass own = some m.cls) (hK : va_K (dC, dI) q_cl [(cI, .int), (cZ, .boolean)] s) (hP : va_P (dC, dI) q_cl (wX cI cZ ad z0) H) (hD : va_D A (wX cI cZ ad z0)) (hS : va_S A H0 H locs) (hlink : (Cond.fieldLink own index ref "size" "I").before args s = true) (hsame : ∀ x, s.fieldFound? "SlippedStreams$Program" "size" "I" = some x → s.fieldFound? ref "size" "I" = some x) (hdg : decode cc pc = .ok (.putfield index, 3)) (es : z1 = stI z0 1 v) (kk : ∀ (H1 : Heap) (locs1 : List Loc), va_P (dC, dI) q_cl (wX cI cZ ad z1) H1 → va_D A (wX cI cZ ad z1) → va_S A H0 H1 locs1 → W p l e Rm s m args below meth c H1 locs1 0 0 Q (F0 m (pc + 3) ls rest)) : W p l e Rm s m args below meth c H locs 0 0 Q (F0 m pc ls (.int v :: .ref (ad 1) :: rest)) := by
  subst es
  exact va_put (D := (dC, dI)) (ci := 1) (ty := .int) hx hb hts hin t_Program t_Program_ok n_Program hown hK hP hD hS 1 rfl rfl 10 (by decide) hlink hsame rfl (by decide +kernel) rfl rfl (Nat.le_of_ble_eq_true rfl) hdg (fun H1 locs1 a b d => kk H1 locs1 a b d)
theorem xg_1_addressMask (hx : p.tables.exec = Jvm.exec) (hb : c.code = cc) (hts : ∀ w ∈ Ts, w.before args s = true) (hin : ∀ w ∈ u_ws R_Program F_Program 12, w ∈ Ts) (hown : s.vm.findClass own = some m.cls) (hK : va_K (dC, dI) q_cl [(cI, .int), (cZ, .boolean)] s) (hP : va_P (dC, dI) q_cl (wX cI cZ ad z0) H) (hlink : (Cond.fieldLink own index ref "addressMask" "I").before args s = true) (hsame : ∀ x, s.fieldFound? "SlippedStreams$Program" "addressMask" "I" = some x → s.fieldFound? ref "addressMask" "I" = some x) (hdg : decode cc pc = .ok (.getfield index, 3)) (kk : W p l e Rm s m args below meth c H locs 0 0 Q (F0 m (pc + 3) ls (.int (z0.1 2) :: rest))) : W p l e Rm s m args below meth c H locs 0 0 Q (F0 m pc ls (.ref (ad 1) :: rest)) :=
  va_get (D := (dC, dI)) (ci := 1) hx hb hts hin hown hK hP 1 rfl rfl 11 (by decide) hlink hsame rfl hdg kk
theorem xp_1_addressMask (hx : p.tables.exec = Jvm.exec) (hb : c.code = cc) (hts : ∀ w ∈ Ts, w.before args s = true) (hin : ∀ w ∈ u_ws R_Program F_Program 12, w ∈ Ts) (hown : s.vm.findClass own = some m.cls) (hK : va_K (dC, dI) q_cl [(cI, .int), (cZ, .boolean)] s) (hP : va_P (dC, dI) q_cl (wX cI cZ ad z0) H) (hD : va_D A (wX cI cZ ad z0)) (hS : va_S A H0 H locs) (hlink : (Cond.fieldLink own index ref "addressMask" "I").before args s = true) (hsame : ∀ x, s.fieldFound? "SlippedStreams$Program" "addressMask" "I" = some x → s.fieldFound? ref "addressMask" "I" = some x) (hdg : decode cc pc = .ok (.putfield index, 3)) (es : z1 = stI z0 2 v) (kk : ∀ (H1 : Heap) (locs1 : List Loc), va_P (dC, dI) q_cl (wX cI cZ ad z1) H1 → va_D A (wX cI cZ ad z1) → va_S A H0 H1 locs1 → W p l e Rm s m args below meth c H1 locs1 0 0 Q (F0 m (pc + 3) ls rest)) : W p l e Rm s m args below meth c H locs 0 0 Q (F0 m pc ls (.int v :: .ref (ad 1) :: rest)) := by
  subst es
  exact va_put (D := (dC, dI)) (ci := 1) (ty := .int) hx hb hts hin t_Program t_Program_ok n_Program hown hK hP hD hS 1 rfl rfl 11 (by decide) hlink hsame rfl (by decide +kernel) rfl rfl (Nat.le_of_ble_eq_true rfl) hdg (fun H1 locs1 a b d => kk H1 locs1 a b d)
theorem xl_0 (hx : p.tables.exec = Jvm.exec) (hb : c.code = cc) (hK : va_K (dC, dI) q_cl [(cI, .int), (cZ, .boolean)] s) (hP : va_P (dC, dI) q_cl (wX cI cZ ad z0) H) (hi : vp_in i 24) (hdg : decode cc pc = .ok (.iaload, 1)) (kk : W p l e Rm s m args below meth c H locs 0 0 Q (F0 m (pc + 1) ls (.int (z0.2 0 i.toNatClampNeg) :: rest))) : W p l e Rm s m args below meth c H locs 0 0 Q (F0 m pc ls (.int i :: .ref (ad 2) :: rest)) :=
  va_iald (D := (dC, dI)) hx hb hK hP 2 0 rfl rfl hi hdg kk
theorem xs_0 (hx : p.tables.exec = Jvm.exec) (hb : c.code = cc) (hK : va_K (dC, dI) q_cl [(cI, .int), (cZ, .boolean)] s) (hP : va_P (dC, dI) q_cl (wX cI cZ ad z0) H) (hD : va_D A (wX cI cZ ad z0)) (hS : va_S A H0 H locs) (hi : vp_in i 24) (hdg : decode cc pc = .ok (.iastore, 1)) (es : z1 = stA z0 0 (upd (z0.2 0) i.toNatClampNeg v)) (kk : ∀ (H1 : Heap) (locs1 : List Loc), va_P (dC, dI) q_cl (wX cI cZ ad z1) H1 → va_D A (wX cI cZ ad z1) → va_S A H0 H1 locs1 → W p l e Rm s m args below meth c H1 locs1 0 0 Q (F0 m (pc + 1) ls rest)) : W p l e Rm s m args below meth c H locs 0 0 Q (F0 m pc ls (.int v :: .int i :: .ref (ad 2) :: rest)) := by
  subst es
  exact va_iast (D := (dC, dI)) hx hb hK hP hD hS 2 0 rfl rfl hi hdg (fun H1 locs1 a b d => kk H1 locs1 (a) (b) d)
theorem xl_1 (hx : p.tables.exec = Jvm.exec) (hb : c.code = cc) (hK : va_K (dC, dI) q_cl [(cI, .int), (cZ, .boolean)] s) (hP : va_P (dC, dI) q_cl (wX cI cZ ad z0) H) (hi : vp_in i 24) (hdg : decode cc pc = .ok (.iaload, 1)) (kk : W p l e Rm s m args below meth c H locs 0 0 Q (F0 m (pc + 1) ls (.int (z0.2 1 i.toNatClampNeg) :: rest))) : W p l e Rm s m args below meth c H locs 0 0 Q (F0 m pc ls (.int i :: .ref (ad 3) :: rest)) :=
  va_iald (D := (dC, dI)) hx hb hK hP 3 0 rfl rfl hi hdg kk
theorem xs_1 (hx : p.tables.exec = Jvm.exec) (hb : c.code = cc) (hK : va_K (dC, dI) q_cl [(cI, .int), (cZ, .boolean)] s) (hP : va_P (dC, dI) q_cl (wX cI cZ ad z0) H) (hD : va_D A (wX cI cZ ad z0)) (hS : va_S A H0 H locs) (hi : vp_in i 24) (hdg : decode cc pc = .ok (.iastore, 1)) (es : z1 = stA z0 1 (upd (z0.2 1) i.toNatClampNeg v)) (kk : ∀ (H1 : Heap) (locs1 : List Loc), va_P (dC, dI) q_cl (wX cI cZ ad z1) H1 → va_D A (wX cI cZ ad z1) → va_S A H0 H1 locs1 → W p l e Rm s m args below meth c H1 locs1 0 0 Q (F0 m (pc + 1) ls rest)) : W p l e Rm s m args below meth c H locs 0 0 Q (F0 m pc ls (.int v :: .int i :: .ref (ad 3) :: rest)) := by
  subst es
  exact va_iast (D := (dC, dI)) hx hb hK hP hD hS 3 0 rfl rfl hi hdg (fun H1 locs1 a b d => kk H1 locs1 (a) (b) d)
theorem xl_2 (hx : p.tables.exec = Jvm.exec) (hb : c.code = cc) (hK : va_K (dC, dI) q_cl [(cI, .int), (cZ, .boolean)] s) (hP : va_P (dC, dI) q_cl (wX cI cZ ad z0) H) (hi : vp_in i 24) (hdg : decode cc pc = .ok (.iaload, 1)) (kk : W p l e Rm s m args below meth c H locs 0 0 Q (F0 m (pc + 1) ls (.int (z0.2 2 i.toNatClampNeg) :: rest))) : W p l e Rm s m args below meth c H locs 0 0 Q (F0 m pc ls (.int i :: .ref (ad 4) :: rest)) :=
  va_iald (D := (dC, dI)) hx hb hK hP 4 0 rfl rfl hi hdg kk
theorem xs_2 (hx : p.tables.exec = Jvm.exec) (hb : c.code = cc) (hK : va_K (dC, dI) q_cl [(cI, .int), (cZ, .boolean)] s) (hP : va_P (dC, dI) q_cl (wX cI cZ ad z0) H) (hD : va_D A (wX cI cZ ad z0)) (hS : va_S A H0 H locs) (hi : vp_in i 24) (hdg : decode cc pc = .ok (.iastore, 1)) (es : z1 = stA z0 2 (upd (z0.2 2) i.toNatClampNeg v)) (kk : ∀ (H1 : Heap) (locs1 : List Loc), va_P (dC, dI) q_cl (wX cI cZ ad z1) H1 → va_D A (wX cI cZ ad z1) → va_S A H0 H1 locs1 → W p l e Rm s m args below meth c H1 locs1 0 0 Q (F0 m (pc + 1) ls rest)) : W p l e Rm s m args below meth c H locs 0 0 Q (F0 m pc ls (.int v :: .int i :: .ref (ad 4) :: rest)) := by
  subst es
  exact va_iast (D := (dC, dI)) hx hb hK hP hD hS 4 0 rfl rfl hi hdg (fun H1 locs1 a b d => kk H1 locs1 (a) (b) d)
theorem xl_3 (hx : p.tables.exec = Jvm.exec) (hb : c.code = cc) (hK : va_K (dC, dI) q_cl [(cI, .int), (cZ, .boolean)] s) (hP : va_P (dC, dI) q_cl (wX cI cZ ad z0) H) (hi : vp_in i 24) (hdg : decode cc pc = .ok (.iaload, 1)) (kk : W p l e Rm s m args below meth c H locs 0 0 Q (F0 m (pc + 1) ls (.int (z0.2 3 i.toNatClampNeg) :: rest))) : W p l e Rm s m args below meth c H locs 0 0 Q (F0 m pc ls (.int i :: .ref (ad 5) :: rest)) :=
  va_iald (D := (dC, dI)) hx hb hK hP 5 0 rfl rfl hi hdg kk
theorem xs_3 (hx : p.tables.exec = Jvm.exec) (hb : c.code = cc) (hK : va_K (dC, dI) q_cl [(cI, .int), (cZ, .boolean)] s) (hP : va_P (dC, dI) q_cl (wX cI cZ ad z0) H) (hD : va_D A (wX cI cZ ad z0)) (hS : va_S A H0 H locs) (hi : vp_in i 24) (hdg : decode cc pc = .ok (.iastore, 1)) (es : z1 = stA z0 3 (upd (z0.2 3) i.toNatClampNeg v)) (kk : ∀ (H1 : Heap) (locs1 : List Loc), va_P (dC, dI) q_cl (wX cI cZ ad z1) H1 → va_D A (wX cI cZ ad z1) → va_S A H0 H1 locs1 → W p l e Rm s m args below meth c H1 locs1 0 0 Q (F0 m (pc + 1) ls rest)) : W p l e Rm s m args below meth c H locs 0 0 Q (F0 m pc ls (.int v :: .int i :: .ref (ad 5) :: rest)) := by
  subst es
  exact va_iast (D := (dC, dI)) hx hb hK hP hD hS 5 0 rfl rfl hi hdg (fun H1 locs1 a b d => kk H1 locs1 (a) (b) d)
theorem xl_4 (hx : p.tables.exec = Jvm.exec) (hb : c.code = cc) (hK : va_K (dC, dI) q_cl [(cI, .int), (cZ, .boolean)] s) (hP : va_P (dC, dI) q_cl (wX cI cZ ad z0) H) (hi : vp_in i 24) (hdg : decode cc pc = .ok (.iaload, 1)) (kk : W p l e Rm s m args below meth c H locs 0 0 Q (F0 m (pc + 1) ls (.int (z0.2 4 i.toNatClampNeg) :: rest))) : W p l e Rm s m args below meth c H locs 0 0 Q (F0 m pc ls (.int i :: .ref (ad 6) :: rest)) :=
  va_iald (D := (dC, dI)) hx hb hK hP 6 0 rfl rfl hi hdg kk
theorem xs_4 (hx : p.tables.exec = Jvm.exec) (hb : c.code = cc) (hK : va_K (dC, dI) q_cl [(cI, .int), (cZ, .boolean)] s) (hP : va_P (dC, dI) q_cl (wX cI cZ ad z0) H) (hD : va_D A (wX cI cZ ad z0)) (hS : va_S A H0 H locs) (hi : vp_in i 24) (hdg : decode cc pc = .ok (.iastore, 1)) (es : z1 = stA z0 4 (upd (z0.2 4) i.toNatClampNeg v)) (kk : ∀ (H1 : Heap) (locs1 : List Loc), va_P (dC, dI) q_cl (wX cI cZ ad z1) H1 → va_D A (wX cI cZ ad z1) → va_S A H0 H1 locs1 → W p l e Rm s m args below meth c H1 locs1 0 0 Q (F0 m (pc + 1) ls rest)) : W p l e Rm s m args below meth c H locs 0 0 Q (F0 m pc ls (.int v :: .int i :: .ref (ad 6) :: rest)) := by
  subst es
  exact va_iast (D := (dC, dI)) hx hb hK hP hD hS 6 0 rfl rfl hi hdg (fun H1 locs1 a b d => kk H1 locs1 (a) (b) d)
theorem xl_5 (hx : p.tables.exec = Jvm.exec) (hb : c.code = cc) (hK : va_K (dC, dI) q_cl [(cI, .int), (cZ, .boolean)] s) (hP : va_P (dC, dI) q_cl (wX cI cZ ad z0) H) (hi : vp_in i 24) (hdg : decode cc pc = .ok (.iaload, 1)) (kk : W p l e Rm s m args below meth c H locs 0 0 Q (F0 m (pc + 1) ls (.int (z0.2 5 i.toNatClampNeg) :: rest))) : W p l e Rm s m args below meth c H locs 0 0 Q (F0 m pc ls (.int i :: .ref (ad 7) :: rest)) :=
  va_iald (D := (dC, dI)) hx hb hK hP 7 0 rfl rfl hi hdg kk
theorem xs_5 (hx : p.tables.exec = Jvm.exec) (hb : c.code = cc) (hK : va_K (dC, dI) q_cl [(cI, .int), (cZ, .boolean)] s) (hP : va_P (dC, dI) q_cl (wX cI cZ ad z0) H) (hD : va_D A (wX cI cZ ad z0)) (hS : va_S A H0 H locs) (hi : vp_in i 24) (hdg : decode cc pc = .ok (.iastore, 1)) (es : z1 = stA z0 5 (upd (z0.2 5) i.toNatClampNeg v)) (kk : ∀ (H1 : Heap) (locs1 : List Loc), va_P (dC, dI) q_cl (wX cI cZ ad z1) H1 → va_D A (wX cI cZ ad z1) → va_S A H0 H1 locs1 → W p l e Rm s m args below meth c H1 locs1 0 0 Q (F0 m (pc + 1) ls rest)) : W p l e Rm s m args below meth c H locs 0 0 Q (F0 m pc ls (.int v :: .int i :: .ref (ad 7) :: rest)) := by
  subst es
  exact va_iast (D := (dC, dI)) hx hb hK hP hD hS 7 0 rfl rfl hi hdg (fun H1 locs1 a b d => kk H1 locs1 (a) (b) d)
theorem xl_6 (hx : p.tables.exec = Jvm.exec) (hb : c.code = cc) (hK : va_K (dC, dI) q_cl [(cI, .int), (cZ, .boolean)] s) (hP : va_P (dC, dI) q_cl (wX cI cZ ad z0) H) (hi : vp_in i 24) (hdg : decode cc pc = .ok (.iaload, 1)) (kk : W p l e Rm s m args below meth c H locs 0 0 Q (F0 m (pc + 1) ls (.int (z0.2 6 i.toNatClampNeg) :: rest))) : W p l e Rm s m args below meth c H locs 0 0 Q (F0 m pc ls (.int i :: .ref (ad 8) :: rest)) :=
  va_iald (D := (dC, dI)) hx hb hK hP 8 0 rfl rfl hi hdg kk
theorem xs_6 (hx : p.tables.exec = Jvm.exec) (hb : c.code = cc) (hK : va_K (dC, dI) q_cl [(cI, .int), (cZ, .boolean)] s) (hP : va_P (dC, dI) q_cl (wX cI cZ ad z0) H) (hD : va_D A (wX cI cZ ad z0)) (hS : va_S A H0 H locs) (hi : vp_in i 24) (hdg : decode cc pc = .ok (.iastore, 1)) (es : z1 = stA z0 6 (upd (z0.2 6) i.toNatClampNeg v)) (kk : ∀ (H1 : Heap) (locs1 : List Loc), va_P (dC, dI) q_cl (wX cI cZ ad z1) H1 → va_D A (wX cI cZ ad z1) → va_S A H0 H1 locs1 → W p l e Rm s m args below meth c H1 locs1 0 0 Q (F0 m (pc + 1) ls rest)) : W p l e Rm s m args below meth c H locs 0 0 Q (F0 m pc ls (.int v :: .int i :: .ref (ad 8) :: rest)) := by
  subst es
  exact va_iast (D := (dC, dI)) hx hb hK hP hD hS 8 0 rfl rfl hi hdg (fun H1 locs1 a b d => kk H1 locs1 (a) (b) d)
theorem xl_7 (hx : p.tables.exec = Jvm.exec) (hb : c.code = cc) (hK : va_K (dC, dI) q_cl [(cI, .int), (cZ, .boolean)] s) (hP : va_P (dC, dI) q_cl (wX cI cZ ad z0) H) (hi : vp_in i 24) (hdg : decode cc pc = .ok (.iaload, 1)) (kk : W p l e Rm s m args below meth c H locs 0 0 Q (F0 m (pc + 1) ls (.int (z0.2 7 i.toNatClampNeg) :: rest))) : W p l e Rm s m args below meth c H locs 0 0 Q (F0 m pc ls (.int i :: .ref (ad 9) :: rest)) :=
  va_iald (D := (dC, dI)) hx hb hK hP 9 0 rfl rfl hi hdg kk
theorem xs_7 (hx : p.tables.exec = Jvm.exec) (hb : c.code = cc) (hK : va_K (dC, dI) q_cl [(cI, .int), (cZ, .boolean)] s) (hP : va_P (dC, dI) q_cl (wX cI cZ ad z0) H) (hD : va_D A (wX cI cZ ad z0)) (hS : va_S A H0 H locs) (hi : vp_in i 24) (hdg : decode cc pc = .ok (.iastore, 1)) (es : z1 = stA z0 7 (upd (z0.2 7) i.toNatClampNeg v)) (kk : ∀ (H1 : Heap) (locs1 : List Loc), va_P (dC, dI) q_cl (wX cI cZ ad z1) H1 → va_D A (wX cI cZ ad z1) → va_S A H0 H1 locs1 → W p l e Rm s m args below meth c H1 locs1 0 0 Q (F0 m (pc + 1) ls rest)) : W p l e Rm s m args below meth c H locs 0 0 Q (F0 m pc ls (.int v :: .int i :: .ref (ad 9) :: rest)) := by
  subst es
  exact va_iast (D := (dC, dI)) hx hb hK hP hD hS 9 0 rfl rfl hi hdg (fun H1 locs1 a b d => kk H1 locs1 (a) (b) d)
theorem xl_8 (hx : p.tables.exec = Jvm.exec) (hb : c.code = cc) (hK : va_K (dC, dI) q_cl [(cI, .int), (cZ, .boolean)] s) (hP : va_P (dC, dI) q_cl (wX cI cZ ad z0) H) (hi : vp_in i 24) (hdg : decode cc pc = .ok (.baload, 1)) (kk : W p l e Rm s m args below meth c H locs 0 0 Q (F0 m (pc + 1) ls (.int (z0.2 8 i.toNatClampNeg) :: rest))) : W p l e Rm s m args below meth c H locs 0 0 Q (F0 m pc ls (.int i :: .ref (ad 10) :: rest)) :=
  va_zald (D := (dC, dI)) hx hb hK hP 10 1 rfl rfl hi hdg kk
theorem xs_8 (hx : p.tables.exec = Jvm.exec) (hb : c.code = cc) (hK : va_K (dC, dI) q_cl [(cI, .int), (cZ, .boolean)] s) (hP : va_P (dC, dI) q_cl (wX cI cZ ad z0) H) (hD : va_D A (wX cI cZ ad z0)) (hS : va_S A H0 H locs) (hi : vp_in i 24) (hv : v = 0 ∨ v = 1) (hdg : decode cc pc = .ok (.bastore, 1)) (es : z1 = stA z0 8 (upd (z0.2 8) i.toNatClampNeg v)) (kk : ∀ (H1 : Heap) (locs1 : List Loc), va_P (dC, dI) q_cl (wX cI cZ ad z1) H1 → va_D A (wX cI cZ ad z1) → va_S A H0 H1 locs1 → W p l e Rm s m args below meth c H1 locs1 0 0 Q (F0 m (pc + 1) ls rest)) : W p l e Rm s m args below meth c H locs 0 0 Q (F0 m pc ls (.int v :: .int i :: .ref (ad 10) :: rest)) := by
  subst es
  exact va_zast (D := (dC, dI)) hx hb hK hP hD hS 10 1 rfl rfl hi hdg (fun H1 locs1 a b d => kk H1 locs1 (by rw [vB hv] at a; exact a) (by rw [vB hv] at b; exact b) d)
theorem xl_9 (hx : p.tables.exec = Jvm.exec) (hb : c.code = cc) (hK : va_K (dC, dI) q_cl [(cI, .int), (cZ, .boolean)] s) (hP : va_P (dC, dI) q_cl (wX cI cZ ad z0) H) (hi : vp_in i 24) (hdg : decode cc pc = .ok (.baload, 1)) (kk : W p l e Rm s m args below meth c H locs 0 0 Q (F0 m (pc + 1) ls (.int (z0.2 9 i.toNatClampNeg) :: rest))) : W p l e Rm s m args below meth c H locs 0 0 Q (F0 m pc ls (.int i :: .ref (ad 11) :: rest)) :=
  va_zald (D := (dC, dI)) hx hb hK hP 11 1 rfl rfl hi hdg kk
theorem xs_9 (hx : p.tables.exec = Jvm.exec) (hb : c.code = cc) (hK : va_K (dC, dI) q_cl [(cI, .int), (cZ, .boolean)] s) (hP : va_P (dC, dI) q_cl (wX cI cZ ad z0) H) (hD : va_D A (wX cI cZ ad z0)) (hS : va_S A H0 H locs) (hi : vp_in i 24) (hv : v = 0 ∨ v = 1) (hdg : decode cc pc = .ok (.bastore, 1)) (es : z1 = stA z0 9 (upd (z0.2 9) i.toNatClampNeg v)) (kk : ∀ (H1 : Heap) (locs1 : List Loc), va_P (dC, dI) q_cl (wX cI cZ ad z1) H1 → va_D A (wX cI cZ ad z1) → va_S A H0 H1 locs1 → W p l e Rm s m args below meth c H1 locs1 0 0 Q (F0 m (pc + 1) ls rest)) : W p l e Rm s m args below meth c H locs 0 0 Q (F0 m pc ls (.int v :: .int i :: .ref (ad 11) :: rest)) := by
  subst es
  exact va_zast (D := (dC, dI)) hx hb hK hP hD hS 11 1 rfl rfl hi hdg (fun H1 locs1 a b d => kk H1 locs1 (by rw [vB hv] at a; exact a) (by rw [vB hv] at b; exact b) d)
theorem xl_10 (hx : p.tables.exec = Jvm.exec) (hb : c.code = cc) (hK : va_K (dC, dI) q_cl [(cI, .int), (cZ, .boolean)] s) (hP : va_P (dC, dI) q_cl (wX cI cZ ad z0) H) (hi : vp_in i 32) (hdg : decode cc pc = .ok (.iaload, 1)) (kk : W p l e Rm s m args below meth c H locs 0 0 Q (F0 m (pc + 1) ls (.int (z0.2 10 i.toNatClampNeg) :: rest))) : W p l e Rm s m args below meth c H locs 0 0 Q (F0 m pc ls (.int i :: .ref (ad 12) :: rest)) :=
  va_iald (D := (dC, dI)) hx hb hK hP 12 0 rfl rfl hi hdg kk
theorem xs_10 (hx : p.tables.exec = Jvm.exec) (hb : c.code = cc) (hK : va_K (dC, dI) q_cl [(cI, .int), (cZ, .boolean)] s) (hP : va_P (dC, dI) q_cl (wX cI cZ ad z0) H) (hD : va_D A (wX cI cZ ad z0)) (hS : va_S A H0 H locs) (hi : vp_in i 32) (hdg : decode cc pc = .ok (.iastore, 1)) (es : z1 = stA z0 10 (upd (z0.2 10) i.toNatClampNeg v)) (kk : ∀ (H1 : Heap) (locs1 : List Loc), va_P (dC, dI) q_cl (wX cI cZ ad z1) H1 → va_D A (wX cI cZ ad z1) → va_S A H0 H1 locs1 → W p l e Rm s m args below meth c H1 locs1 0 0 Q (F0 m (pc + 1) ls rest)) : W p l e Rm s m args below meth c H locs 0 0 Q (F0 m pc ls (.int v :: .int i :: .ref (ad 12) :: rest)) := by
  subst es
  exact va_iast (D := (dC, dI)) hx hb hK hP hD hS 12 0 rfl rfl hi hdg (fun H1 locs1 a b d => kk H1 locs1 (a) (b) d)
theorem xg_13_memory (hx : p.tables.exec = Jvm.exec) (hb : c.code = cc) (hts : ∀ w ∈ Ts, w.before args s = true) (hin : ∀ w ∈ u_ws R_Link F_Link 7, w ∈ Ts) (hown : s.vm.findClass own = some m.cls) (hK : va_K (dC, dI) q_cl [(cI, .int), (cZ, .boolean)] s) (hP : va_P (dC, dI) q_cl (wX cI cZ ad z0) H) (hlink : (Cond.fieldLink own index ref "memory" "[I").before args s = true) (hsame : ∀ x, s.fieldFound? "SlippedStreams$Link" "memory" "[I" = some x → s.fieldFound? ref "memory" "[I" = some x) (hdg : decode cc pc = .ok (.getfield index, 3)) (kk : W p l e Rm s m args below meth c H locs 0 0 Q (F0 m (pc + 3) ls (.ref (ad 14) :: rest))) : W p l e Rm s m args below meth c H locs 0 0 Q (F0 m pc ls (.ref (ad 13) :: rest)) :=
  va_get (D := (dC, dI)) (ci := 2) hx hb hts hin hown hK hP 13 rfl rfl 0 (by decide) hlink hsame rfl hdg kk
theorem xg_13_loads (hx : p.tables.exec = Jvm.exec) (hb : c.code = cc) (hts : ∀ w ∈ Ts, w.before args s = true) (hin : ∀ w ∈ u_ws R_Link F_Link 7, w ∈ Ts) (hown : s.vm.findClass own = some m.cls) (hK : va_K (dC, dI) q_cl [(cI, .int), (cZ, .boolean)] s) (hP : va_P (dC, dI) q_cl (wX cI cZ ad z0) H) (hlink : (Cond.fieldLink own index ref "loads" "LSlippedStreams$Fifo;").before args s = true) (hsame : ∀ x, s.fieldFound? "SlippedStreams$Link" "loads" "LSlippedStreams$Fifo;" = some x → s.fieldFound? ref "loads" "LSlippedStreams$Fifo;" = some x) (hdg : decode cc pc = .ok (.getfield index, 3)) (kk : W p l e Rm s m args below meth c H locs 0 0 Q (F0 m (pc + 3) ls (.ref (ad 15) :: rest))) : W p l e Rm s m args below meth c H locs 0 0 Q (F0 m pc ls (.ref (ad 13) :: rest)) :=
  va_get (D := (dC, dI)) (ci := 2) hx hb hts hin hown hK hP 13 rfl rfl 1 (by decide) hlink hsame rfl hdg kk
theorem xg_13_stored (hx : p.tables.exec = Jvm.exec) (hb : c.code = cc) (hts : ∀ w ∈ Ts, w.before args s = true) (hin : ∀ w ∈ u_ws R_Link F_Link 7, w ∈ Ts) (hown : s.vm.findClass own = some m.cls) (hK : va_K (dC, dI) q_cl [(cI, .int), (cZ, .boolean)] s) (hP : va_P (dC, dI) q_cl (wX cI cZ ad z0) H) (hlink : (Cond.fieldLink own index ref "stored" "LSlippedStreams$Fifo;").before args s = true) (hsame : ∀ x, s.fieldFound? "SlippedStreams$Link" "stored" "LSlippedStreams$Fifo;" = some x → s.fieldFound? ref "stored" "LSlippedStreams$Fifo;" = some x) (hdg : decode cc pc = .ok (.getfield index, 3)) (kk : W p l e Rm s m args below meth c H locs 0 0 Q (F0 m (pc + 3) ls (.ref (ad 16) :: rest))) : W p l e Rm s m args below meth c H locs 0 0 Q (F0 m pc ls (.ref (ad 13) :: rest)) :=
  va_get (D := (dC, dI)) (ci := 2) hx hb hts hin hown hK hP 13 rfl rfl 2 (by decide) hlink hsame rfl hdg kk
theorem xg_13_valueOutcomes (hx : p.tables.exec = Jvm.exec) (hb : c.code = cc) (hts : ∀ w ∈ Ts, w.before args s = true) (hin : ∀ w ∈ u_ws R_Link F_Link 7, w ∈ Ts) (hown : s.vm.findClass own = some m.cls) (hK : va_K (dC, dI) q_cl [(cI, .int), (cZ, .boolean)] s) (hP : va_P (dC, dI) q_cl (wX cI cZ ad z0) H) (hlink : (Cond.fieldLink own index ref "valueOutcomes" "LSlippedStreams$Fifo;").before args s = true) (hsame : ∀ x, s.fieldFound? "SlippedStreams$Link" "valueOutcomes" "LSlippedStreams$Fifo;" = some x → s.fieldFound? ref "valueOutcomes" "LSlippedStreams$Fifo;" = some x) (hdg : decode cc pc = .ok (.getfield index, 3)) (kk : W p l e Rm s m args below meth c H locs 0 0 Q (F0 m (pc + 3) ls (.ref (ad 17) :: rest))) : W p l e Rm s m args below meth c H locs 0 0 Q (F0 m pc ls (.ref (ad 13) :: rest)) :=
  va_get (D := (dC, dI)) (ci := 2) hx hb hts hin hown hK hP 13 rfl rfl 3 (by decide) hlink hsame rfl hdg kk
theorem xg_13_addressOutcomes (hx : p.tables.exec = Jvm.exec) (hb : c.code = cc) (hts : ∀ w ∈ Ts, w.before args s = true) (hin : ∀ w ∈ u_ws R_Link F_Link 7, w ∈ Ts) (hown : s.vm.findClass own = some m.cls) (hK : va_K (dC, dI) q_cl [(cI, .int), (cZ, .boolean)] s) (hP : va_P (dC, dI) q_cl (wX cI cZ ad z0) H) (hlink : (Cond.fieldLink own index ref "addressOutcomes" "LSlippedStreams$Fifo;").before args s = true) (hsame : ∀ x, s.fieldFound? "SlippedStreams$Link" "addressOutcomes" "LSlippedStreams$Fifo;" = some x → s.fieldFound? ref "addressOutcomes" "LSlippedStreams$Fifo;" = some x) (hdg : decode cc pc = .ok (.getfield index, 3)) (kk : W p l e Rm s m args below meth c H locs 0 0 Q (F0 m (pc + 3) ls (.ref (ad 18) :: rest))) : W p l e Rm s m args below meth c H locs 0 0 Q (F0 m pc ls (.ref (ad 13) :: rest)) :=
  va_get (D := (dC, dI)) (ci := 2) hx hb hts hin hown hK hP 13 rfl rfl 4 (by decide) hlink hsame rfl hdg kk
theorem xg_13_passed (hx : p.tables.exec = Jvm.exec) (hb : c.code = cc) (hts : ∀ w ∈ Ts, w.before args s = true) (hin : ∀ w ∈ u_ws R_Link F_Link 7, w ∈ Ts) (hown : s.vm.findClass own = some m.cls) (hK : va_K (dC, dI) q_cl [(cI, .int), (cZ, .boolean)] s) (hP : va_P (dC, dI) q_cl (wX cI cZ ad z0) H) (hlink : (Cond.fieldLink own index ref "passed" "LSlippedStreams$Fifo;").before args s = true) (hsame : ∀ x, s.fieldFound? "SlippedStreams$Link" "passed" "LSlippedStreams$Fifo;" = some x → s.fieldFound? ref "passed" "LSlippedStreams$Fifo;" = some x) (hdg : decode cc pc = .ok (.getfield index, 3)) (kk : W p l e Rm s m args below meth c H locs 0 0 Q (F0 m (pc + 3) ls (.ref (ad 19) :: rest))) : W p l e Rm s m args below meth c H locs 0 0 Q (F0 m pc ls (.ref (ad 13) :: rest)) :=
  va_get (D := (dC, dI)) (ci := 2) hx hb hts hin hown hK hP 13 rfl rfl 5 (by decide) hlink hsame rfl hdg kk
theorem xg_13_stores (hx : p.tables.exec = Jvm.exec) (hb : c.code = cc) (hts : ∀ w ∈ Ts, w.before args s = true) (hin : ∀ w ∈ u_ws R_Link F_Link 7, w ∈ Ts) (hown : s.vm.findClass own = some m.cls) (hK : va_K (dC, dI) q_cl [(cI, .int), (cZ, .boolean)] s) (hP : va_P (dC, dI) q_cl (wX cI cZ ad z0) H) (hlink : (Cond.fieldLink own index ref "stores" "LSlippedStreams$StoreList;").before args s = true) (hsame : ∀ x, s.fieldFound? "SlippedStreams$Link" "stores" "LSlippedStreams$StoreList;" = some x → s.fieldFound? ref "stores" "LSlippedStreams$StoreList;" = some x) (hdg : decode cc pc = .ok (.getfield index, 3)) (kk : W p l e Rm s m args below meth c H locs 0 0 Q (F0 m (pc + 3) ls (.ref (ad 25) :: rest))) : W p l e Rm s m args below meth c H locs 0 0 Q (F0 m pc ls (.ref (ad 13) :: rest)) :=
  va_get (D := (dC, dI)) (ci := 2) hx hb hts hin hown hK hP 13 rfl rfl 6 (by decide) hlink hsame rfl hdg kk
theorem xl_11 (hx : p.tables.exec = Jvm.exec) (hb : c.code = cc) (hK : va_K (dC, dI) q_cl [(cI, .int), (cZ, .boolean)] s) (hP : va_P (dC, dI) q_cl (wX cI cZ ad z0) H) (hi : vp_in i 32) (hdg : decode cc pc = .ok (.iaload, 1)) (kk : W p l e Rm s m args below meth c H locs 0 0 Q (F0 m (pc + 1) ls (.int (z0.2 11 i.toNatClampNeg) :: rest))) : W p l e Rm s m args below meth c H locs 0 0 Q (F0 m pc ls (.int i :: .ref (ad 14) :: rest)) :=
  va_iald (D := (dC, dI)) hx hb hK hP 14 0 rfl rfl hi hdg kk
theorem xs_11 (hx : p.tables.exec = Jvm.exec) (hb : c.code = cc) (hK : va_K (dC, dI) q_cl [(cI, .int), (cZ, .boolean)] s) (hP : va_P (dC, dI) q_cl (wX cI cZ ad z0) H) (hD : va_D A (wX cI cZ ad z0)) (hS : va_S A H0 H locs) (hi : vp_in i 32) (hdg : decode cc pc = .ok (.iastore, 1)) (es : z1 = stA z0 11 (upd (z0.2 11) i.toNatClampNeg v)) (kk : ∀ (H1 : Heap) (locs1 : List Loc), va_P (dC, dI) q_cl (wX cI cZ ad z1) H1 → va_D A (wX cI cZ ad z1) → va_S A H0 H1 locs1 → W p l e Rm s m args below meth c H1 locs1 0 0 Q (F0 m (pc + 1) ls rest)) : W p l e Rm s m args below meth c H locs 0 0 Q (F0 m pc ls (.int v :: .int i :: .ref (ad 14) :: rest)) := by
  subst es
  exact va_iast (D := (dC, dI)) hx hb hK hP hD hS 14 0 rfl rfl hi hdg (fun H1 locs1 a b d => kk H1 locs1 (a) (b) d)
theorem xg_15_things (hx : p.tables.exec = Jvm.exec) (hb : c.code = cc) (hts : ∀ w ∈ Ts, w.before args s = true) (hin : ∀ w ∈ u_ws R_Fifo F_Fifo 3, w ∈ Ts) (hown : s.vm.findClass own = some m.cls) (hK : va_K (dC, dI) q_cl [(cI, .int), (cZ, .boolean)] s) (hP : va_P (dC, dI) q_cl (wX cI cZ ad z0) H) (hlink : (Cond.fieldLink own index ref "things" "[I").before args s = true) (hsame : ∀ x, s.fieldFound? "SlippedStreams$Fifo" "things" "[I" = some x → s.fieldFound? ref "things" "[I" = some x) (hdg : decode cc pc = .ok (.getfield index, 3)) (kk : W p l e Rm s m args below meth c H locs 0 0 Q (F0 m (pc + 3) ls (.ref (ad 20) :: rest))) : W p l e Rm s m args below meth c H locs 0 0 Q (F0 m pc ls (.ref (ad 15) :: rest)) :=
  va_get (D := (dC, dI)) (ci := 3) hx hb hts hin hown hK hP 15 rfl rfl 0 (by decide) hlink hsame rfl hdg kk
theorem xg_15_first (hx : p.tables.exec = Jvm.exec) (hb : c.code = cc) (hts : ∀ w ∈ Ts, w.before args s = true) (hin : ∀ w ∈ u_ws R_Fifo F_Fifo 3, w ∈ Ts) (hown : s.vm.findClass own = some m.cls) (hK : va_K (dC, dI) q_cl [(cI, .int), (cZ, .boolean)] s) (hP : va_P (dC, dI) q_cl (wX cI cZ ad z0) H) (hlink : (Cond.fieldLink own index ref "first" "I").before args s = true) (hsame : ∀ x, s.fieldFound? "SlippedStreams$Fifo" "first" "I" = some x → s.fieldFound? ref "first" "I" = some x) (hdg : decode cc pc = .ok (.getfield index, 3)) (kk : W p l e Rm s m args below meth c H locs 0 0 Q (F0 m (pc + 3) ls (.int (z0.1 3) :: rest))) : W p l e Rm s m args below meth c H locs 0 0 Q (F0 m pc ls (.ref (ad 15) :: rest)) :=
  va_get (D := (dC, dI)) (ci := 3) hx hb hts hin hown hK hP 15 rfl rfl 1 (by decide) hlink hsame rfl hdg kk
theorem xp_15_first (hx : p.tables.exec = Jvm.exec) (hb : c.code = cc) (hts : ∀ w ∈ Ts, w.before args s = true) (hin : ∀ w ∈ u_ws R_Fifo F_Fifo 3, w ∈ Ts) (hown : s.vm.findClass own = some m.cls) (hK : va_K (dC, dI) q_cl [(cI, .int), (cZ, .boolean)] s) (hP : va_P (dC, dI) q_cl (wX cI cZ ad z0) H) (hD : va_D A (wX cI cZ ad z0)) (hS : va_S A H0 H locs) (hlink : (Cond.fieldLink own index ref "first" "I").before args s = true) (hsame : ∀ x, s.fieldFound? "SlippedStreams$Fifo" "first" "I" = some x → s.fieldFound? ref "first" "I" = some x) (hdg : decode cc pc = .ok (.putfield index, 3)) (es : z1 = stI z0 3 v) (kk : ∀ (H1 : Heap) (locs1 : List Loc), va_P (dC, dI) q_cl (wX cI cZ ad z1) H1 → va_D A (wX cI cZ ad z1) → va_S A H0 H1 locs1 → W p l e Rm s m args below meth c H1 locs1 0 0 Q (F0 m (pc + 3) ls rest)) : W p l e Rm s m args below meth c H locs 0 0 Q (F0 m pc ls (.int v :: .ref (ad 15) :: rest)) := by
  subst es
  exact va_put (D := (dC, dI)) (ci := 3) (ty := .int) hx hb hts hin t_Fifo t_Fifo_ok n_Fifo hown hK hP hD hS 15 rfl rfl 1 (by decide) hlink hsame rfl (by decide +kernel) rfl rfl (Nat.le_of_ble_eq_true rfl) hdg (fun H1 locs1 a b d => kk H1 locs1 a b d)
theorem xg_15_size (hx : p.tables.exec = Jvm.exec) (hb : c.code = cc) (hts : ∀ w ∈ Ts, w.before args s = true) (hin : ∀ w ∈ u_ws R_Fifo F_Fifo 3, w ∈ Ts) (hown : s.vm.findClass own = some m.cls) (hK : va_K (dC, dI) q_cl [(cI, .int), (cZ, .boolean)] s) (hP : va_P (dC, dI) q_cl (wX cI cZ ad z0) H) (hlink : (Cond.fieldLink own index ref "size" "I").before args s = true) (hsame : ∀ x, s.fieldFound? "SlippedStreams$Fifo" "size" "I" = some x → s.fieldFound? ref "size" "I" = some x) (hdg : decode cc pc = .ok (.getfield index, 3)) (kk : W p l e Rm s m args below meth c H locs 0 0 Q (F0 m (pc + 3) ls (.int (z0.1 4) :: rest))) : W p l e Rm s m args below meth c H locs 0 0 Q (F0 m pc ls (.ref (ad 15) :: rest)) :=
  va_get (D := (dC, dI)) (ci := 3) hx hb hts hin hown hK hP 15 rfl rfl 2 (by decide) hlink hsame rfl hdg kk
theorem xp_15_size (hx : p.tables.exec = Jvm.exec) (hb : c.code = cc) (hts : ∀ w ∈ Ts, w.before args s = true) (hin : ∀ w ∈ u_ws R_Fifo F_Fifo 3, w ∈ Ts) (hown : s.vm.findClass own = some m.cls) (hK : va_K (dC, dI) q_cl [(cI, .int), (cZ, .boolean)] s) (hP : va_P (dC, dI) q_cl (wX cI cZ ad z0) H) (hD : va_D A (wX cI cZ ad z0)) (hS : va_S A H0 H locs) (hlink : (Cond.fieldLink own index ref "size" "I").before args s = true) (hsame : ∀ x, s.fieldFound? "SlippedStreams$Fifo" "size" "I" = some x → s.fieldFound? ref "size" "I" = some x) (hdg : decode cc pc = .ok (.putfield index, 3)) (es : z1 = stI z0 4 v) (kk : ∀ (H1 : Heap) (locs1 : List Loc), va_P (dC, dI) q_cl (wX cI cZ ad z1) H1 → va_D A (wX cI cZ ad z1) → va_S A H0 H1 locs1 → W p l e Rm s m args below meth c H1 locs1 0 0 Q (F0 m (pc + 3) ls rest)) : W p l e Rm s m args below meth c H locs 0 0 Q (F0 m pc ls (.int v :: .ref (ad 15) :: rest)) := by
  subst es
  exact va_put (D := (dC, dI)) (ci := 3) (ty := .int) hx hb hts hin t_Fifo t_Fifo_ok n_Fifo hown hK hP hD hS 15 rfl rfl 2 (by decide) hlink hsame rfl (by decide +kernel) rfl rfl (Nat.le_of_ble_eq_true rfl) hdg (fun H1 locs1 a b d => kk H1 locs1 a b d)
theorem xg_16_things (hx : p.tables.exec = Jvm.exec) (hb : c.code = cc) (hts : ∀ w ∈ Ts, w.before args s = true) (hin : ∀ w ∈ u_ws R_Fifo F_Fifo 3, w ∈ Ts) (hown : s.vm.findClass own = some m.cls) (hK : va_K (dC, dI) q_cl [(cI, .int), (cZ, .boolean)] s) (hP : va_P (dC, dI) q_cl (wX cI cZ ad z0) H) (hlink : (Cond.fieldLink own index ref "things" "[I").before args s = true) (hsame : ∀ x, s.fieldFound? "SlippedStreams$Fifo" "things" "[I" = some x → s.fieldFound? ref "things" "[I" = some x) (hdg : decode cc pc = .ok (.getfield index, 3)) (kk : W p l e Rm s m args below meth c H locs 0 0 Q (F0 m (pc + 3) ls (.ref (ad 21) :: rest))) : W p l e Rm s m args below meth c H locs 0 0 Q (F0 m pc ls (.ref (ad 16) :: rest)) :=
  va_get (D := (dC, dI)) (ci := 3) hx hb hts hin hown hK hP 16 rfl rfl 0 (by decide) hlink hsame rfl hdg kk
theorem xg_16_first (hx : p.tables.exec = Jvm.exec) (hb : c.code = cc) (hts : ∀ w ∈ Ts, w.before args s = true) (hin : ∀ w ∈ u_ws R_Fifo F_Fifo 3, w ∈ Ts) (hown : s.vm.findClass own = some m.cls) (hK : va_K (dC, dI) q_cl [(cI, .int), (cZ, .boolean)] s) (hP : va_P (dC, dI) q_cl (wX cI cZ ad z0) H) (hlink : (Cond.fieldLink own index ref "first" "I").before args s = true) (hsame : ∀ x, s.fieldFound? "SlippedStreams$Fifo" "first" "I" = some x → s.fieldFound? ref "first" "I" = some x) (hdg : decode cc pc = .ok (.getfield index, 3)) (kk : W p l e Rm s m args below meth c H locs 0 0 Q (F0 m (pc + 3) ls (.int (z0.1 5) :: rest))) : W p l e Rm s m args below meth c H locs 0 0 Q (F0 m pc ls (.ref (ad 16) :: rest)) :=
  va_get (D := (dC, dI)) (ci := 3) hx hb hts hin hown hK hP 16 rfl rfl 1 (by decide) hlink hsame rfl hdg kk
theorem xp_16_first (hx : p.tables.exec = Jvm.exec) (hb : c.code = cc) (hts : ∀ w ∈ Ts, w.before args s = true) (hin : ∀ w ∈ u_ws R_Fifo F_Fifo 3, w ∈ Ts) (hown : s.vm.findClass own = some m.cls) (hK : va_K (dC, dI) q_cl [(cI, .int), (cZ, .boolean)] s) (hP : va_P (dC, dI) q_cl (wX cI cZ ad z0) H) (hD : va_D A (wX cI cZ ad z0)) (hS : va_S A H0 H locs) (hlink : (Cond.fieldLink own index ref "first" "I").before args s = true) (hsame : ∀ x, s.fieldFound? "SlippedStreams$Fifo" "first" "I" = some x → s.fieldFound? ref "first" "I" = some x) (hdg : decode cc pc = .ok (.putfield index, 3)) (es : z1 = stI z0 5 v) (kk : ∀ (H1 : Heap) (locs1 : List Loc), va_P (dC, dI) q_cl (wX cI cZ ad z1) H1 → va_D A (wX cI cZ ad z1) → va_S A H0 H1 locs1 → W p l e Rm s m args below meth c H1 locs1 0 0 Q (F0 m (pc + 3) ls rest)) : W p l e Rm s m args below meth c H locs 0 0 Q (F0 m pc ls (.int v :: .ref (ad 16) :: rest)) := by
  subst es
  exact va_put (D := (dC, dI)) (ci := 3) (ty := .int) hx hb hts hin t_Fifo t_Fifo_ok n_Fifo hown hK hP hD hS 16 rfl rfl 1 (by decide) hlink hsame rfl (by decide +kernel) rfl rfl (Nat.le_of_ble_eq_true rfl) hdg (fun H1 locs1 a b d => kk H1 locs1 a b d)
theorem xg_16_size (hx : p.tables.exec = Jvm.exec) (hb : c.code = cc) (hts : ∀ w ∈ Ts, w.before args s = true) (hin : ∀ w ∈ u_ws R_Fifo F_Fifo 3, w ∈ Ts) (hown : s.vm.findClass own = some m.cls) (hK : va_K (dC, dI) q_cl [(cI, .int), (cZ, .boolean)] s) (hP : va_P (dC, dI) q_cl (wX cI cZ ad z0) H) (hlink : (Cond.fieldLink own index ref "size" "I").before args s = true) (hsame : ∀ x, s.fieldFound? "SlippedStreams$Fifo" "size" "I" = some x → s.fieldFound? ref "size" "I" = some x) (hdg : decode cc pc = .ok (.getfield index, 3)) (kk : W p l e Rm s m args below meth c H locs 0 0 Q (F0 m (pc + 3) ls (.int (z0.1 6) :: rest))) : W p l e Rm s m args below meth c H locs 0 0 Q (F0 m pc ls (.ref (ad 16) :: rest)) :=
  va_get (D := (dC, dI)) (ci := 3) hx hb hts hin hown hK hP 16 rfl rfl 2 (by decide) hlink hsame rfl hdg kk
theorem xp_16_size (hx : p.tables.exec = Jvm.exec) (hb : c.code = cc) (hts : ∀ w ∈ Ts, w.before args s = true) (hin : ∀ w ∈ u_ws R_Fifo F_Fifo 3, w ∈ Ts) (hown : s.vm.findClass own = some m.cls) (hK : va_K (dC, dI) q_cl [(cI, .int), (cZ, .boolean)] s) (hP : va_P (dC, dI) q_cl (wX cI cZ ad z0) H) (hD : va_D A (wX cI cZ ad z0)) (hS : va_S A H0 H locs) (hlink : (Cond.fieldLink own index ref "size" "I").before args s = true) (hsame : ∀ x, s.fieldFound? "SlippedStreams$Fifo" "size" "I" = some x → s.fieldFound? ref "size" "I" = some x) (hdg : decode cc pc = .ok (.putfield index, 3)) (es : z1 = stI z0 6 v) (kk : ∀ (H1 : Heap) (locs1 : List Loc), va_P (dC, dI) q_cl (wX cI cZ ad z1) H1 → va_D A (wX cI cZ ad z1) → va_S A H0 H1 locs1 → W p l e Rm s m args below meth c H1 locs1 0 0 Q (F0 m (pc + 3) ls rest)) : W p l e Rm s m args below meth c H locs 0 0 Q (F0 m pc ls (.int v :: .ref (ad 16) :: rest)) := by
  subst es
  exact va_put (D := (dC, dI)) (ci := 3) (ty := .int) hx hb hts hin t_Fifo t_Fifo_ok n_Fifo hown hK hP hD hS 16 rfl rfl 2 (by decide) hlink hsame rfl (by decide +kernel) rfl rfl (Nat.le_of_ble_eq_true rfl) hdg (fun H1 locs1 a b d => kk H1 locs1 a b d)
theorem xg_17_things (hx : p.tables.exec = Jvm.exec) (hb : c.code = cc) (hts : ∀ w ∈ Ts, w.before args s = true) (hin : ∀ w ∈ u_ws R_Fifo F_Fifo 3, w ∈ Ts) (hown : s.vm.findClass own = some m.cls) (hK : va_K (dC, dI) q_cl [(cI, .int), (cZ, .boolean)] s) (hP : va_P (dC, dI) q_cl (wX cI cZ ad z0) H) (hlink : (Cond.fieldLink own index ref "things" "[I").before args s = true) (hsame : ∀ x, s.fieldFound? "SlippedStreams$Fifo" "things" "[I" = some x → s.fieldFound? ref "things" "[I" = some x) (hdg : decode cc pc = .ok (.getfield index, 3)) (kk : W p l e Rm s m args below meth c H locs 0 0 Q (F0 m (pc + 3) ls (.ref (ad 22) :: rest))) : W p l e Rm s m args below meth c H locs 0 0 Q (F0 m pc ls (.ref (ad 17) :: rest)) :=
  va_get (D := (dC, dI)) (ci := 3) hx hb hts hin hown hK hP 17 rfl rfl 0 (by decide) hlink hsame rfl hdg kk
theorem xg_17_first (hx : p.tables.exec = Jvm.exec) (hb : c.code = cc) (hts : ∀ w ∈ Ts, w.before args s = true) (hin : ∀ w ∈ u_ws R_Fifo F_Fifo 3, w ∈ Ts) (hown : s.vm.findClass own = some m.cls) (hK : va_K (dC, dI) q_cl [(cI, .int), (cZ, .boolean)] s) (hP : va_P (dC, dI) q_cl (wX cI cZ ad z0) H) (hlink : (Cond.fieldLink own index ref "first" "I").before args s = true) (hsame : ∀ x, s.fieldFound? "SlippedStreams$Fifo" "first" "I" = some x → s.fieldFound? ref "first" "I" = some x) (hdg : decode cc pc = .ok (.getfield index, 3)) (kk : W p l e Rm s m args below meth c H locs 0 0 Q (F0 m (pc + 3) ls (.int (z0.1 7) :: rest))) : W p l e Rm s m args below meth c H locs 0 0 Q (F0 m pc ls (.ref (ad 17) :: rest)) :=
  va_get (D := (dC, dI)) (ci := 3) hx hb hts hin hown hK hP 17 rfl rfl 1 (by decide) hlink hsame rfl hdg kk
theorem xp_17_first (hx : p.tables.exec = Jvm.exec) (hb : c.code = cc) (hts : ∀ w ∈ Ts, w.before args s = true) (hin : ∀ w ∈ u_ws R_Fifo F_Fifo 3, w ∈ Ts) (hown : s.vm.findClass own = some m.cls) (hK : va_K (dC, dI) q_cl [(cI, .int), (cZ, .boolean)] s) (hP : va_P (dC, dI) q_cl (wX cI cZ ad z0) H) (hD : va_D A (wX cI cZ ad z0)) (hS : va_S A H0 H locs) (hlink : (Cond.fieldLink own index ref "first" "I").before args s = true) (hsame : ∀ x, s.fieldFound? "SlippedStreams$Fifo" "first" "I" = some x → s.fieldFound? ref "first" "I" = some x) (hdg : decode cc pc = .ok (.putfield index, 3)) (es : z1 = stI z0 7 v) (kk : ∀ (H1 : Heap) (locs1 : List Loc), va_P (dC, dI) q_cl (wX cI cZ ad z1) H1 → va_D A (wX cI cZ ad z1) → va_S A H0 H1 locs1 → W p l e Rm s m args below meth c H1 locs1 0 0 Q (F0 m (pc + 3) ls rest)) : W p l e Rm s m args below meth c H locs 0 0 Q (F0 m pc ls (.int v :: .ref (ad 17) :: rest)) := by
  subst es
  exact va_put (D := (dC, dI)) (ci := 3) (ty := .int) hx hb hts hin t_Fifo t_Fifo_ok n_Fifo hown hK hP hD hS 17 rfl rfl 1 (by decide) hlink hsame rfl (by decide +kernel) rfl rfl (Nat.le_of_ble_eq_true rfl) hdg (fun H1 locs1 a b d => kk H1 locs1 a b d)
theorem xg_17_size (hx : p.tables.exec = Jvm.exec) (hb : c.code = cc) (hts : ∀ w ∈ Ts, w.before args s = true) (hin : ∀ w ∈ u_ws R_Fifo F_Fifo 3, w ∈ Ts) (hown : s.vm.findClass own = some m.cls) (hK : va_K (dC, dI) q_cl [(cI, .int), (cZ, .boolean)] s) (hP : va_P (dC, dI) q_cl (wX cI cZ ad z0) H) (hlink : (Cond.fieldLink own index ref "size" "I").before args s = true) (hsame : ∀ x, s.fieldFound? "SlippedStreams$Fifo" "size" "I" = some x → s.fieldFound? ref "size" "I" = some x) (hdg : decode cc pc = .ok (.getfield index, 3)) (kk : W p l e Rm s m args below meth c H locs 0 0 Q (F0 m (pc + 3) ls (.int (z0.1 8) :: rest))) : W p l e Rm s m args below meth c H locs 0 0 Q (F0 m pc ls (.ref (ad 17) :: rest)) :=
  va_get (D := (dC, dI)) (ci := 3) hx hb hts hin hown hK hP 17 rfl rfl 2 (by decide) hlink hsame rfl hdg kk
theorem xp_17_size (hx : p.tables.exec = Jvm.exec) (hb : c.code = cc) (hts : ∀ w ∈ Ts, w.before args s = true) (hin : ∀ w ∈ u_ws R_Fifo F_Fifo 3, w ∈ Ts) (hown : s.vm.findClass own = some m.cls) (hK : va_K (dC, dI) q_cl [(cI, .int), (cZ, .boolean)] s) (hP : va_P (dC, dI) q_cl (wX cI cZ ad z0) H) (hD : va_D A (wX cI cZ ad z0)) (hS : va_S A H0 H locs) (hlink : (Cond.fieldLink own index ref "size" "I").before args s = true) (hsame : ∀ x, s.fieldFound? "SlippedStreams$Fifo" "size" "I" = some x → s.fieldFound? ref "size" "I" = some x) (hdg : decode cc pc = .ok (.putfield index, 3)) (es : z1 = stI z0 8 v) (kk : ∀ (H1 : Heap) (locs1 : List Loc), va_P (dC, dI) q_cl (wX cI cZ ad z1) H1 → va_D A (wX cI cZ ad z1) → va_S A H0 H1 locs1 → W p l e Rm s m args below meth c H1 locs1 0 0 Q (F0 m (pc + 3) ls rest)) : W p l e Rm s m args below meth c H locs 0 0 Q (F0 m pc ls (.int v :: .ref (ad 17) :: rest)) := by
  subst es
  exact va_put (D := (dC, dI)) (ci := 3) (ty := .int) hx hb hts hin t_Fifo t_Fifo_ok n_Fifo hown hK hP hD hS 17 rfl rfl 2 (by decide) hlink hsame rfl (by decide +kernel) rfl rfl (Nat.le_of_ble_eq_true rfl) hdg (fun H1 locs1 a b d => kk H1 locs1 a b d)
theorem xg_18_things (hx : p.tables.exec = Jvm.exec) (hb : c.code = cc) (hts : ∀ w ∈ Ts, w.before args s = true) (hin : ∀ w ∈ u_ws R_Fifo F_Fifo 3, w ∈ Ts) (hown : s.vm.findClass own = some m.cls) (hK : va_K (dC, dI) q_cl [(cI, .int), (cZ, .boolean)] s) (hP : va_P (dC, dI) q_cl (wX cI cZ ad z0) H) (hlink : (Cond.fieldLink own index ref "things" "[I").before args s = true) (hsame : ∀ x, s.fieldFound? "SlippedStreams$Fifo" "things" "[I" = some x → s.fieldFound? ref "things" "[I" = some x) (hdg : decode cc pc = .ok (.getfield index, 3)) (kk : W p l e Rm s m args below meth c H locs 0 0 Q (F0 m (pc + 3) ls (.ref (ad 23) :: rest))) : W p l e Rm s m args below meth c H locs 0 0 Q (F0 m pc ls (.ref (ad 18) :: rest)) :=
  va_get (D := (dC, dI)) (ci := 3) hx hb hts hin hown hK hP 18 rfl rfl 0 (by decide) hlink hsame rfl hdg kk
theorem xg_18_first (hx : p.tables.exec = Jvm.exec) (hb : c.code = cc) (hts : ∀ w ∈ Ts, w.before args s = true) (hin : ∀ w ∈ u_ws R_Fifo F_Fifo 3, w ∈ Ts) (hown : s.vm.findClass own = some m.cls) (hK : va_K (dC, dI) q_cl [(cI, .int), (cZ, .boolean)] s) (hP : va_P (dC, dI) q_cl (wX cI cZ ad z0) H) (hlink : (Cond.fieldLink own index ref "first" "I").before args s = true) (hsame : ∀ x, s.fieldFound? "SlippedStreams$Fifo" "first" "I" = some x → s.fieldFound? ref "first" "I" = some x) (hdg : decode cc pc = .ok (.getfield index, 3)) (kk : W p l e Rm s m args below meth c H locs 0 0 Q (F0 m (pc + 3) ls (.int (z0.1 9) :: rest))) : W p l e Rm s m args below meth c H locs 0 0 Q (F0 m pc ls (.ref (ad 18) :: rest)) :=
  va_get (D := (dC, dI)) (ci := 3) hx hb hts hin hown hK hP 18 rfl rfl 1 (by decide) hlink hsame rfl hdg kk
theorem xp_18_first (hx : p.tables.exec = Jvm.exec) (hb : c.code = cc) (hts : ∀ w ∈ Ts, w.before args s = true) (hin : ∀ w ∈ u_ws R_Fifo F_Fifo 3, w ∈ Ts) (hown : s.vm.findClass own = some m.cls) (hK : va_K (dC, dI) q_cl [(cI, .int), (cZ, .boolean)] s) (hP : va_P (dC, dI) q_cl (wX cI cZ ad z0) H) (hD : va_D A (wX cI cZ ad z0)) (hS : va_S A H0 H locs) (hlink : (Cond.fieldLink own index ref "first" "I").before args s = true) (hsame : ∀ x, s.fieldFound? "SlippedStreams$Fifo" "first" "I" = some x → s.fieldFound? ref "first" "I" = some x) (hdg : decode cc pc = .ok (.putfield index, 3)) (es : z1 = stI z0 9 v) (kk : ∀ (H1 : Heap) (locs1 : List Loc), va_P (dC, dI) q_cl (wX cI cZ ad z1) H1 → va_D A (wX cI cZ ad z1) → va_S A H0 H1 locs1 → W p l e Rm s m args below meth c H1 locs1 0 0 Q (F0 m (pc + 3) ls rest)) : W p l e Rm s m args below meth c H locs 0 0 Q (F0 m pc ls (.int v :: .ref (ad 18) :: rest)) := by
  subst es
  exact va_put (D := (dC, dI)) (ci := 3) (ty := .int) hx hb hts hin t_Fifo t_Fifo_ok n_Fifo hown hK hP hD hS 18 rfl rfl 1 (by decide) hlink hsame rfl (by decide +kernel) rfl rfl (Nat.le_of_ble_eq_true rfl) hdg (fun H1 locs1 a b d => kk H1 locs1 a b d)
theorem xg_18_size (hx : p.tables.exec = Jvm.exec) (hb : c.code = cc) (hts : ∀ w ∈ Ts, w.before args s = true) (hin : ∀ w ∈ u_ws R_Fifo F_Fifo 3, w ∈ Ts) (hown : s.vm.findClass own = some m.cls) (hK : va_K (dC, dI) q_cl [(cI, .int), (cZ, .boolean)] s) (hP : va_P (dC, dI) q_cl (wX cI cZ ad z0) H) (hlink : (Cond.fieldLink own index ref "size" "I").before args s = true) (hsame : ∀ x, s.fieldFound? "SlippedStreams$Fifo" "size" "I" = some x → s.fieldFound? ref "size" "I" = some x) (hdg : decode cc pc = .ok (.getfield index, 3)) (kk : W p l e Rm s m args below meth c H locs 0 0 Q (F0 m (pc + 3) ls (.int (z0.1 10) :: rest))) : W p l e Rm s m args below meth c H locs 0 0 Q (F0 m pc ls (.ref (ad 18) :: rest)) :=
  va_get (D := (dC, dI)) (ci := 3) hx hb hts hin hown hK hP 18 rfl rfl 2 (by decide) hlink hsame rfl hdg kk
theorem xp_18_size (hx : p.tables.exec = Jvm.exec) (hb : c.code = cc) (hts : ∀ w ∈ Ts, w.before args s = true) (hin : ∀ w ∈ u_ws R_Fifo F_Fifo 3, w ∈ Ts) (hown : s.vm.findClass own = some m.cls) (hK : va_K (dC, dI) q_cl [(cI, .int), (cZ, .boolean)] s) (hP : va_P (dC, dI) q_cl (wX cI cZ ad z0) H) (hD : va_D A (wX cI cZ ad z0)) (hS : va_S A H0 H locs) (hlink : (Cond.fieldLink own index ref "size" "I").before args s = true) (hsame : ∀ x, s.fieldFound? "SlippedStreams$Fifo" "size" "I" = some x → s.fieldFound? ref "size" "I" = some x) (hdg : decode cc pc = .ok (.putfield index, 3)) (es : z1 = stI z0 10 v) (kk : ∀ (H1 : Heap) (locs1 : List Loc), va_P (dC, dI) q_cl (wX cI cZ ad z1) H1 → va_D A (wX cI cZ ad z1) → va_S A H0 H1 locs1 → W p l e Rm s m args below meth c H1 locs1 0 0 Q (F0 m (pc + 3) ls rest)) : W p l e Rm s m args below meth c H locs 0 0 Q (F0 m pc ls (.int v :: .ref (ad 18) :: rest)) := by
  subst es
  exact va_put (D := (dC, dI)) (ci := 3) (ty := .int) hx hb hts hin t_Fifo t_Fifo_ok n_Fifo hown hK hP hD hS 18 rfl rfl 2 (by decide) hlink hsame rfl (by decide +kernel) rfl rfl (Nat.le_of_ble_eq_true rfl) hdg (fun H1 locs1 a b d => kk H1 locs1 a b d)
theorem xg_19_things (hx : p.tables.exec = Jvm.exec) (hb : c.code = cc) (hts : ∀ w ∈ Ts, w.before args s = true) (hin : ∀ w ∈ u_ws R_Fifo F_Fifo 3, w ∈ Ts) (hown : s.vm.findClass own = some m.cls) (hK : va_K (dC, dI) q_cl [(cI, .int), (cZ, .boolean)] s) (hP : va_P (dC, dI) q_cl (wX cI cZ ad z0) H) (hlink : (Cond.fieldLink own index ref "things" "[I").before args s = true) (hsame : ∀ x, s.fieldFound? "SlippedStreams$Fifo" "things" "[I" = some x → s.fieldFound? ref "things" "[I" = some x) (hdg : decode cc pc = .ok (.getfield index, 3)) (kk : W p l e Rm s m args below meth c H locs 0 0 Q (F0 m (pc + 3) ls (.ref (ad 24) :: rest))) : W p l e Rm s m args below meth c H locs 0 0 Q (F0 m pc ls (.ref (ad 19) :: rest)) :=
  va_get (D := (dC, dI)) (ci := 3) hx hb hts hin hown hK hP 19 rfl rfl 0 (by decide) hlink hsame rfl hdg kk
theorem xg_19_first (hx : p.tables.exec = Jvm.exec) (hb : c.code = cc) (hts : ∀ w ∈ Ts, w.before args s = true) (hin : ∀ w ∈ u_ws R_Fifo F_Fifo 3, w ∈ Ts) (hown : s.vm.findClass own = some m.cls) (hK : va_K (dC, dI) q_cl [(cI, .int), (cZ, .boolean)] s) (hP : va_P (dC, dI) q_cl (wX cI cZ ad z0) H) (hlink : (Cond.fieldLink own index ref "first" "I").before args s = true) (hsame : ∀ x, s.fieldFound? "SlippedStreams$Fifo" "first" "I" = some x → s.fieldFound? ref "first" "I" = some x) (hdg : decode cc pc = .ok (.getfield index, 3)) (kk : W p l e Rm s m args below meth c H locs 0 0 Q (F0 m (pc + 3) ls (.int (z0.1 11) :: rest))) : W p l e Rm s m args below meth c H locs 0 0 Q (F0 m pc ls (.ref (ad 19) :: rest)) :=
  va_get (D := (dC, dI)) (ci := 3) hx hb hts hin hown hK hP 19 rfl rfl 1 (by decide) hlink hsame rfl hdg kk
theorem xp_19_first (hx : p.tables.exec = Jvm.exec) (hb : c.code = cc) (hts : ∀ w ∈ Ts, w.before args s = true) (hin : ∀ w ∈ u_ws R_Fifo F_Fifo 3, w ∈ Ts) (hown : s.vm.findClass own = some m.cls) (hK : va_K (dC, dI) q_cl [(cI, .int), (cZ, .boolean)] s) (hP : va_P (dC, dI) q_cl (wX cI cZ ad z0) H) (hD : va_D A (wX cI cZ ad z0)) (hS : va_S A H0 H locs) (hlink : (Cond.fieldLink own index ref "first" "I").before args s = true) (hsame : ∀ x, s.fieldFound? "SlippedStreams$Fifo" "first" "I" = some x → s.fieldFound? ref "first" "I" = some x) (hdg : decode cc pc = .ok (.putfield index, 3)) (es : z1 = stI z0 11 v) (kk : ∀ (H1 : Heap) (locs1 : List Loc), va_P (dC, dI) q_cl (wX cI cZ ad z1) H1 → va_D A (wX cI cZ ad z1) → va_S A H0 H1 locs1 → W p l e Rm s m args below meth c H1 locs1 0 0 Q (F0 m (pc + 3) ls rest)) : W p l e Rm s m args below meth c H locs 0 0 Q (F0 m pc ls (.int v :: .ref (ad 19) :: rest)) := by
  subst es
  exact va_put (D := (dC, dI)) (ci := 3) (ty := .int) hx hb hts hin t_Fifo t_Fifo_ok n_Fifo hown hK hP hD hS 19 rfl rfl 1 (by decide) hlink hsame rfl (by decide +kernel) rfl rfl (Nat.le_of_ble_eq_true rfl) hdg (fun H1 locs1 a b d => kk H1 locs1 a b d)
theorem xg_19_size (hx : p.tables.exec = Jvm.exec) (hb : c.code = cc) (hts : ∀ w ∈ Ts, w.before args s = true) (hin : ∀ w ∈ u_ws R_Fifo F_Fifo 3, w ∈ Ts) (hown : s.vm.findClass own = some m.cls) (hK : va_K (dC, dI) q_cl [(cI, .int), (cZ, .boolean)] s) (hP : va_P (dC, dI) q_cl (wX cI cZ ad z0) H) (hlink : (Cond.fieldLink own index ref "size" "I").before args s = true) (hsame : ∀ x, s.fieldFound? "SlippedStreams$Fifo" "size" "I" = some x → s.fieldFound? ref "size" "I" = some x) (hdg : decode cc pc = .ok (.getfield index, 3)) (kk : W p l e Rm s m args below meth c H locs 0 0 Q (F0 m (pc + 3) ls (.int (z0.1 12) :: rest))) : W p l e Rm s m args below meth c H locs 0 0 Q (F0 m pc ls (.ref (ad 19) :: rest)) :=
  va_get (D := (dC, dI)) (ci := 3) hx hb hts hin hown hK hP 19 rfl rfl 2 (by decide) hlink hsame rfl hdg kk
theorem xp_19_size (hx : p.tables.exec = Jvm.exec) (hb : c.code = cc) (hts : ∀ w ∈ Ts, w.before args s = true) (hin : ∀ w ∈ u_ws R_Fifo F_Fifo 3, w ∈ Ts) (hown : s.vm.findClass own = some m.cls) (hK : va_K (dC, dI) q_cl [(cI, .int), (cZ, .boolean)] s) (hP : va_P (dC, dI) q_cl (wX cI cZ ad z0) H) (hD : va_D A (wX cI cZ ad z0)) (hS : va_S A H0 H locs) (hlink : (Cond.fieldLink own index ref "size" "I").before args s = true) (hsame : ∀ x, s.fieldFound? "SlippedStreams$Fifo" "size" "I" = some x → s.fieldFound? ref "size" "I" = some x) (hdg : decode cc pc = .ok (.putfield index, 3)) (es : z1 = stI z0 12 v) (kk : ∀ (H1 : Heap) (locs1 : List Loc), va_P (dC, dI) q_cl (wX cI cZ ad z1) H1 → va_D A (wX cI cZ ad z1) → va_S A H0 H1 locs1 → W p l e Rm s m args below meth c H1 locs1 0 0 Q (F0 m (pc + 3) ls rest)) : W p l e Rm s m args below meth c H locs 0 0 Q (F0 m pc ls (.int v :: .ref (ad 19) :: rest)) := by
  subst es
  exact va_put (D := (dC, dI)) (ci := 3) (ty := .int) hx hb hts hin t_Fifo t_Fifo_ok n_Fifo hown hK hP hD hS 19 rfl rfl 2 (by decide) hlink hsame rfl (by decide +kernel) rfl rfl (Nat.le_of_ble_eq_true rfl) hdg (fun H1 locs1 a b d => kk H1 locs1 a b d)
theorem xl_12 (hx : p.tables.exec = Jvm.exec) (hb : c.code = cc) (hK : va_K (dC, dI) q_cl [(cI, .int), (cZ, .boolean)] s) (hP : va_P (dC, dI) q_cl (wX cI cZ ad z0) H) (hi : vp_in i 4) (hdg : decode cc pc = .ok (.iaload, 1)) (kk : W p l e Rm s m args below meth c H locs 0 0 Q (F0 m (pc + 1) ls (.int (z0.2 12 i.toNatClampNeg) :: rest))) : W p l e Rm s m args below meth c H locs 0 0 Q (F0 m pc ls (.int i :: .ref (ad 20) :: rest)) :=
  va_iald (D := (dC, dI)) hx hb hK hP 20 0 rfl rfl hi hdg kk
theorem xs_12 (hx : p.tables.exec = Jvm.exec) (hb : c.code = cc) (hK : va_K (dC, dI) q_cl [(cI, .int), (cZ, .boolean)] s) (hP : va_P (dC, dI) q_cl (wX cI cZ ad z0) H) (hD : va_D A (wX cI cZ ad z0)) (hS : va_S A H0 H locs) (hi : vp_in i 4) (hdg : decode cc pc = .ok (.iastore, 1)) (es : z1 = stA z0 12 (upd (z0.2 12) i.toNatClampNeg v)) (kk : ∀ (H1 : Heap) (locs1 : List Loc), va_P (dC, dI) q_cl (wX cI cZ ad z1) H1 → va_D A (wX cI cZ ad z1) → va_S A H0 H1 locs1 → W p l e Rm s m args below meth c H1 locs1 0 0 Q (F0 m (pc + 1) ls rest)) : W p l e Rm s m args below meth c H locs 0 0 Q (F0 m pc ls (.int v :: .int i :: .ref (ad 20) :: rest)) := by
  subst es
  exact va_iast (D := (dC, dI)) hx hb hK hP hD hS 20 0 rfl rfl hi hdg (fun H1 locs1 a b d => kk H1 locs1 (a) (b) d)
theorem xl_13 (hx : p.tables.exec = Jvm.exec) (hb : c.code = cc) (hK : va_K (dC, dI) q_cl [(cI, .int), (cZ, .boolean)] s) (hP : va_P (dC, dI) q_cl (wX cI cZ ad z0) H) (hi : vp_in i 4) (hdg : decode cc pc = .ok (.iaload, 1)) (kk : W p l e Rm s m args below meth c H locs 0 0 Q (F0 m (pc + 1) ls (.int (z0.2 13 i.toNatClampNeg) :: rest))) : W p l e Rm s m args below meth c H locs 0 0 Q (F0 m pc ls (.int i :: .ref (ad 21) :: rest)) :=
  va_iald (D := (dC, dI)) hx hb hK hP 21 0 rfl rfl hi hdg kk
theorem xs_13 (hx : p.tables.exec = Jvm.exec) (hb : c.code = cc) (hK : va_K (dC, dI) q_cl [(cI, .int), (cZ, .boolean)] s) (hP : va_P (dC, dI) q_cl (wX cI cZ ad z0) H) (hD : va_D A (wX cI cZ ad z0)) (hS : va_S A H0 H locs) (hi : vp_in i 4) (hdg : decode cc pc = .ok (.iastore, 1)) (es : z1 = stA z0 13 (upd (z0.2 13) i.toNatClampNeg v)) (kk : ∀ (H1 : Heap) (locs1 : List Loc), va_P (dC, dI) q_cl (wX cI cZ ad z1) H1 → va_D A (wX cI cZ ad z1) → va_S A H0 H1 locs1 → W p l e Rm s m args below meth c H1 locs1 0 0 Q (F0 m (pc + 1) ls rest)) : W p l e Rm s m args below meth c H locs 0 0 Q (F0 m pc ls (.int v :: .int i :: .ref (ad 21) :: rest)) := by
  subst es
  exact va_iast (D := (dC, dI)) hx hb hK hP hD hS 21 0 rfl rfl hi hdg (fun H1 locs1 a b d => kk H1 locs1 (a) (b) d)
theorem xl_14 (hx : p.tables.exec = Jvm.exec) (hb : c.code = cc) (hK : va_K (dC, dI) q_cl [(cI, .int), (cZ, .boolean)] s) (hP : va_P (dC, dI) q_cl (wX cI cZ ad z0) H) (hi : vp_in i 4) (hdg : decode cc pc = .ok (.iaload, 1)) (kk : W p l e Rm s m args below meth c H locs 0 0 Q (F0 m (pc + 1) ls (.int (z0.2 14 i.toNatClampNeg) :: rest))) : W p l e Rm s m args below meth c H locs 0 0 Q (F0 m pc ls (.int i :: .ref (ad 22) :: rest)) :=
  va_iald (D := (dC, dI)) hx hb hK hP 22 0 rfl rfl hi hdg kk
theorem xs_14 (hx : p.tables.exec = Jvm.exec) (hb : c.code = cc) (hK : va_K (dC, dI) q_cl [(cI, .int), (cZ, .boolean)] s) (hP : va_P (dC, dI) q_cl (wX cI cZ ad z0) H) (hD : va_D A (wX cI cZ ad z0)) (hS : va_S A H0 H locs) (hi : vp_in i 4) (hdg : decode cc pc = .ok (.iastore, 1)) (es : z1 = stA z0 14 (upd (z0.2 14) i.toNatClampNeg v)) (kk : ∀ (H1 : Heap) (locs1 : List Loc), va_P (dC, dI) q_cl (wX cI cZ ad z1) H1 → va_D A (wX cI cZ ad z1) → va_S A H0 H1 locs1 → W p l e Rm s m args below meth c H1 locs1 0 0 Q (F0 m (pc + 1) ls rest)) : W p l e Rm s m args below meth c H locs 0 0 Q (F0 m pc ls (.int v :: .int i :: .ref (ad 22) :: rest)) := by
  subst es
  exact va_iast (D := (dC, dI)) hx hb hK hP hD hS 22 0 rfl rfl hi hdg (fun H1 locs1 a b d => kk H1 locs1 (a) (b) d)
theorem xl_15 (hx : p.tables.exec = Jvm.exec) (hb : c.code = cc) (hK : va_K (dC, dI) q_cl [(cI, .int), (cZ, .boolean)] s) (hP : va_P (dC, dI) q_cl (wX cI cZ ad z0) H) (hi : vp_in i 4) (hdg : decode cc pc = .ok (.iaload, 1)) (kk : W p l e Rm s m args below meth c H locs 0 0 Q (F0 m (pc + 1) ls (.int (z0.2 15 i.toNatClampNeg) :: rest))) : W p l e Rm s m args below meth c H locs 0 0 Q (F0 m pc ls (.int i :: .ref (ad 23) :: rest)) :=
  va_iald (D := (dC, dI)) hx hb hK hP 23 0 rfl rfl hi hdg kk
theorem xs_15 (hx : p.tables.exec = Jvm.exec) (hb : c.code = cc) (hK : va_K (dC, dI) q_cl [(cI, .int), (cZ, .boolean)] s) (hP : va_P (dC, dI) q_cl (wX cI cZ ad z0) H) (hD : va_D A (wX cI cZ ad z0)) (hS : va_S A H0 H locs) (hi : vp_in i 4) (hdg : decode cc pc = .ok (.iastore, 1)) (es : z1 = stA z0 15 (upd (z0.2 15) i.toNatClampNeg v)) (kk : ∀ (H1 : Heap) (locs1 : List Loc), va_P (dC, dI) q_cl (wX cI cZ ad z1) H1 → va_D A (wX cI cZ ad z1) → va_S A H0 H1 locs1 → W p l e Rm s m args below meth c H1 locs1 0 0 Q (F0 m (pc + 1) ls rest)) : W p l e Rm s m args below meth c H locs 0 0 Q (F0 m pc ls (.int v :: .int i :: .ref (ad 23) :: rest)) := by
  subst es
  exact va_iast (D := (dC, dI)) hx hb hK hP hD hS 23 0 rfl rfl hi hdg (fun H1 locs1 a b d => kk H1 locs1 (a) (b) d)
theorem xl_16 (hx : p.tables.exec = Jvm.exec) (hb : c.code = cc) (hK : va_K (dC, dI) q_cl [(cI, .int), (cZ, .boolean)] s) (hP : va_P (dC, dI) q_cl (wX cI cZ ad z0) H) (hi : vp_in i 6) (hdg : decode cc pc = .ok (.iaload, 1)) (kk : W p l e Rm s m args below meth c H locs 0 0 Q (F0 m (pc + 1) ls (.int (z0.2 16 i.toNatClampNeg) :: rest))) : W p l e Rm s m args below meth c H locs 0 0 Q (F0 m pc ls (.int i :: .ref (ad 24) :: rest)) :=
  va_iald (D := (dC, dI)) hx hb hK hP 24 0 rfl rfl hi hdg kk
theorem xs_16 (hx : p.tables.exec = Jvm.exec) (hb : c.code = cc) (hK : va_K (dC, dI) q_cl [(cI, .int), (cZ, .boolean)] s) (hP : va_P (dC, dI) q_cl (wX cI cZ ad z0) H) (hD : va_D A (wX cI cZ ad z0)) (hS : va_S A H0 H locs) (hi : vp_in i 6) (hdg : decode cc pc = .ok (.iastore, 1)) (es : z1 = stA z0 16 (upd (z0.2 16) i.toNatClampNeg v)) (kk : ∀ (H1 : Heap) (locs1 : List Loc), va_P (dC, dI) q_cl (wX cI cZ ad z1) H1 → va_D A (wX cI cZ ad z1) → va_S A H0 H1 locs1 → W p l e Rm s m args below meth c H1 locs1 0 0 Q (F0 m (pc + 1) ls rest)) : W p l e Rm s m args below meth c H locs 0 0 Q (F0 m pc ls (.int v :: .int i :: .ref (ad 24) :: rest)) := by
  subst es
  exact va_iast (D := (dC, dI)) hx hb hK hP hD hS 24 0 rfl rfl hi hdg (fun H1 locs1 a b d => kk H1 locs1 (a) (b) d)
theorem xg_25_memory (hx : p.tables.exec = Jvm.exec) (hb : c.code = cc) (hts : ∀ w ∈ Ts, w.before args s = true) (hin : ∀ w ∈ u_ws R_StoreList F_StoreList 6, w ∈ Ts) (hown : s.vm.findClass own = some m.cls) (hK : va_K (dC, dI) q_cl [(cI, .int), (cZ, .boolean)] s) (hP : va_P (dC, dI) q_cl (wX cI cZ ad z0) H) (hlink : (Cond.fieldLink own index ref "memory" "[I").before args s = true) (hsame : ∀ x, s.fieldFound? "SlippedStreams$StoreList" "memory" "[I" = some x → s.fieldFound? ref "memory" "[I" = some x) (hdg : decode cc pc = .ok (.getfield index, 3)) (kk : W p l e Rm s m args below meth c H locs 0 0 Q (F0 m (pc + 3) ls (.ref (ad 14) :: rest))) : W p l e Rm s m args below meth c H locs 0 0 Q (F0 m pc ls (.ref (ad 25) :: rest)) :=
  va_get (D := (dC, dI)) (ci := 4) hx hb hts hin hown hK hP 25 rfl rfl 0 (by decide) hlink hsame rfl hdg kk
theorem xg_25_addresses (hx : p.tables.exec = Jvm.exec) (hb : c.code = cc) (hts : ∀ w ∈ Ts, w.before args s = true) (hin : ∀ w ∈ u_ws R_StoreList F_StoreList 6, w ∈ Ts) (hown : s.vm.findClass own = some m.cls) (hK : va_K (dC, dI) q_cl [(cI, .int), (cZ, .boolean)] s) (hP : va_P (dC, dI) q_cl (wX cI cZ ad z0) H) (hlink : (Cond.fieldLink own index ref "addresses" "[I").before args s = true) (hsame : ∀ x, s.fieldFound? "SlippedStreams$StoreList" "addresses" "[I" = some x → s.fieldFound? ref "addresses" "[I" = some x) (hdg : decode cc pc = .ok (.getfield index, 3)) (kk : W p l e Rm s m args below meth c H locs 0 0 Q (F0 m (pc + 3) ls (.ref (ad 26) :: rest))) : W p l e Rm s m args below meth c H locs 0 0 Q (F0 m pc ls (.ref (ad 25) :: rest)) :=
  va_get (D := (dC, dI)) (ci := 4) hx hb hts hin hown hK hP 25 rfl rfl 1 (by decide) hlink hsame rfl hdg kk
theorem xg_25_values (hx : p.tables.exec = Jvm.exec) (hb : c.code = cc) (hts : ∀ w ∈ Ts, w.before args s = true) (hin : ∀ w ∈ u_ws R_StoreList F_StoreList 6, w ∈ Ts) (hown : s.vm.findClass own = some m.cls) (hK : va_K (dC, dI) q_cl [(cI, .int), (cZ, .boolean)] s) (hP : va_P (dC, dI) q_cl (wX cI cZ ad z0) H) (hlink : (Cond.fieldLink own index ref "values" "[I").before args s = true) (hsame : ∀ x, s.fieldFound? "SlippedStreams$StoreList" "values" "[I" = some x → s.fieldFound? ref "values" "[I" = some x) (hdg : decode cc pc = .ok (.getfield index, 3)) (kk : W p l e Rm s m args below meth c H locs 0 0 Q (F0 m (pc + 3) ls (.ref (ad 27) :: rest))) : W p l e Rm s m args below meth c H locs 0 0 Q (F0 m pc ls (.ref (ad 25) :: rest)) :=
  va_get (D := (dC, dI)) (ci := 4) hx hb hts hin hown hK hP 25 rfl rfl 2 (by decide) hlink hsame rfl hdg kk
theorem xg_25_known (hx : p.tables.exec = Jvm.exec) (hb : c.code = cc) (hts : ∀ w ∈ Ts, w.before args s = true) (hin : ∀ w ∈ u_ws R_StoreList F_StoreList 6, w ∈ Ts) (hown : s.vm.findClass own = some m.cls) (hK : va_K (dC, dI) q_cl [(cI, .int), (cZ, .boolean)] s) (hP : va_P (dC, dI) q_cl (wX cI cZ ad z0) H) (hlink : (Cond.fieldLink own index ref "known" "[Z").before args s = true) (hsame : ∀ x, s.fieldFound? "SlippedStreams$StoreList" "known" "[Z" = some x → s.fieldFound? ref "known" "[Z" = some x) (hdg : decode cc pc = .ok (.getfield index, 3)) (kk : W p l e Rm s m args below meth c H locs 0 0 Q (F0 m (pc + 3) ls (.ref (ad 28) :: rest))) : W p l e Rm s m args below meth c H locs 0 0 Q (F0 m pc ls (.ref (ad 25) :: rest)) :=
  va_get (D := (dC, dI)) (ci := 4) hx hb hts hin hown hK hP 25 rfl rfl 3 (by decide) hlink hsame rfl hdg kk
theorem xg_25_first (hx : p.tables.exec = Jvm.exec) (hb : c.code = cc) (hts : ∀ w ∈ Ts, w.before args s = true) (hin : ∀ w ∈ u_ws R_StoreList F_StoreList 6, w ∈ Ts) (hown : s.vm.findClass own = some m.cls) (hK : va_K (dC, dI) q_cl [(cI, .int), (cZ, .boolean)] s) (hP : va_P (dC, dI) q_cl (wX cI cZ ad z0) H) (hlink : (Cond.fieldLink own index ref "first" "I").before args s = true) (hsame : ∀ x, s.fieldFound? "SlippedStreams$StoreList" "first" "I" = some x → s.fieldFound? ref "first" "I" = some x) (hdg : decode cc pc = .ok (.getfield index, 3)) (kk : W p l e Rm s m args below meth c H locs 0 0 Q (F0 m (pc + 3) ls (.int (z0.1 13) :: rest))) : W p l e Rm s m args below meth c H locs 0 0 Q (F0 m pc ls (.ref (ad 25) :: rest)) :=
  va_get (D := (dC, dI)) (ci := 4) hx hb hts hin hown hK hP 25 rfl rfl 4 (by decide) hlink hsame rfl hdg kk
theorem xp_25_first (hx : p.tables.exec = Jvm.exec) (hb : c.code = cc) (hts : ∀ w ∈ Ts, w.before args s = true) (hin : ∀ w ∈ u_ws R_StoreList F_StoreList 6, w ∈ Ts) (hown : s.vm.findClass own = some m.cls) (hK : va_K (dC, dI) q_cl [(cI, .int), (cZ, .boolean)] s) (hP : va_P (dC, dI) q_cl (wX cI cZ ad z0) H) (hD : va_D A (wX cI cZ ad z0)) (hS : va_S A H0 H locs) (hlink : (Cond.fieldLink own index ref "first" "I").before args s = true) (hsame : ∀ x, s.fieldFound? "SlippedStreams$StoreList" "first" "I" = some x → s.fieldFound? ref "first" "I" = some x) (hdg : decode cc pc = .ok (.putfield index, 3)) (es : z1 = stI z0 13 v) (kk : ∀ (H1 : Heap) (locs1 : List Loc), va_P (dC, dI) q_cl (wX cI cZ ad z1) H1 → va_D A (wX cI cZ ad z1) → va_S A H0 H1 locs1 → W p l e Rm s m args below meth c H1 locs1 0 0 Q (F0 m (pc + 3) ls rest)) : W p l e Rm s m args below meth c H locs 0 0 Q (F0 m pc ls (.int v :: .ref (ad 25) :: rest)) := by
  subst es
  exact va_put (D := (dC, dI)) (ci := 4) (ty := .int) hx hb hts hin t_StoreList t_StoreList_ok n_StoreList hown hK hP hD hS 25 rfl rfl 4 (by decide) hlink hsame rfl (by decide +kernel) rfl rfl (Nat.le_of_ble_eq_true rfl) hdg (fun H1 locs1 a b d => kk H1 locs1 a b d)
theorem xg_25_size (hx : p.tables.exec = Jvm.exec) (hb : c.code = cc) (hts : ∀ w ∈ Ts, w.before args s = true) (hin : ∀ w ∈ u_ws R_StoreList F_StoreList 6, w ∈ Ts) (hown : s.vm.findClass own = some m.cls) (hK : va_K (dC, dI) q_cl [(cI, .int), (cZ, .boolean)] s) (hP : va_P (dC, dI) q_cl (wX cI cZ ad z0) H) (hlink : (Cond.fieldLink own index ref "size" "I").before args s = true) (hsame : ∀ x, s.fieldFound? "SlippedStreams$StoreList" "size" "I" = some x → s.fieldFound? ref "size" "I" = some x) (hdg : decode cc pc = .ok (.getfield index, 3)) (kk : W p l e Rm s m args below meth c H locs 0 0 Q (F0 m (pc + 3) ls (.int (z0.1 14) :: rest))) : W p l e Rm s m args below meth c H locs 0 0 Q (F0 m pc ls (.ref (ad 25) :: rest)) :=
  va_get (D := (dC, dI)) (ci := 4) hx hb hts hin hown hK hP 25 rfl rfl 5 (by decide) hlink hsame rfl hdg kk
theorem xp_25_size (hx : p.tables.exec = Jvm.exec) (hb : c.code = cc) (hts : ∀ w ∈ Ts, w.before args s = true) (hin : ∀ w ∈ u_ws R_StoreList F_StoreList 6, w ∈ Ts) (hown : s.vm.findClass own = some m.cls) (hK : va_K (dC, dI) q_cl [(cI, .int), (cZ, .boolean)] s) (hP : va_P (dC, dI) q_cl (wX cI cZ ad z0) H) (hD : va_D A (wX cI cZ ad z0)) (hS : va_S A H0 H locs) (hlink : (Cond.fieldLink own index ref "size" "I").before args s = true) (hsame : ∀ x, s.fieldFound? "SlippedStreams$StoreList" "size" "I" = some x → s.fieldFound? ref "size" "I" = some x) (hdg : decode cc pc = .ok (.putfield index, 3)) (es : z1 = stI z0 14 v) (kk : ∀ (H1 : Heap) (locs1 : List Loc), va_P (dC, dI) q_cl (wX cI cZ ad z1) H1 → va_D A (wX cI cZ ad z1) → va_S A H0 H1 locs1 → W p l e Rm s m args below meth c H1 locs1 0 0 Q (F0 m (pc + 3) ls rest)) : W p l e Rm s m args below meth c H locs 0 0 Q (F0 m pc ls (.int v :: .ref (ad 25) :: rest)) := by
  subst es
  exact va_put (D := (dC, dI)) (ci := 4) (ty := .int) hx hb hts hin t_StoreList t_StoreList_ok n_StoreList hown hK hP hD hS 25 rfl rfl 5 (by decide) hlink hsame rfl (by decide +kernel) rfl rfl (Nat.le_of_ble_eq_true rfl) hdg (fun H1 locs1 a b d => kk H1 locs1 a b d)
theorem xl_17 (hx : p.tables.exec = Jvm.exec) (hb : c.code = cc) (hK : va_K (dC, dI) q_cl [(cI, .int), (cZ, .boolean)] s) (hP : va_P (dC, dI) q_cl (wX cI cZ ad z0) H) (hi : vp_in i 6) (hdg : decode cc pc = .ok (.iaload, 1)) (kk : W p l e Rm s m args below meth c H locs 0 0 Q (F0 m (pc + 1) ls (.int (z0.2 17 i.toNatClampNeg) :: rest))) : W p l e Rm s m args below meth c H locs 0 0 Q (F0 m pc ls (.int i :: .ref (ad 26) :: rest)) :=
  va_iald (D := (dC, dI)) hx hb hK hP 26 0 rfl rfl hi hdg kk
theorem xs_17 (hx : p.tables.exec = Jvm.exec) (hb : c.code = cc) (hK : va_K (dC, dI) q_cl [(cI, .int), (cZ, .boolean)] s) (hP : va_P (dC, dI) q_cl (wX cI cZ ad z0) H) (hD : va_D A (wX cI cZ ad z0)) (hS : va_S A H0 H locs) (hi : vp_in i 6) (hdg : decode cc pc = .ok (.iastore, 1)) (es : z1 = stA z0 17 (upd (z0.2 17) i.toNatClampNeg v)) (kk : ∀ (H1 : Heap) (locs1 : List Loc), va_P (dC, dI) q_cl (wX cI cZ ad z1) H1 → va_D A (wX cI cZ ad z1) → va_S A H0 H1 locs1 → W p l e Rm s m args below meth c H1 locs1 0 0 Q (F0 m (pc + 1) ls rest)) : W p l e Rm s m args below meth c H locs 0 0 Q (F0 m pc ls (.int v :: .int i :: .ref (ad 26) :: rest)) := by
  subst es
  exact va_iast (D := (dC, dI)) hx hb hK hP hD hS 26 0 rfl rfl hi hdg (fun H1 locs1 a b d => kk H1 locs1 (a) (b) d)
theorem xl_18 (hx : p.tables.exec = Jvm.exec) (hb : c.code = cc) (hK : va_K (dC, dI) q_cl [(cI, .int), (cZ, .boolean)] s) (hP : va_P (dC, dI) q_cl (wX cI cZ ad z0) H) (hi : vp_in i 6) (hdg : decode cc pc = .ok (.iaload, 1)) (kk : W p l e Rm s m args below meth c H locs 0 0 Q (F0 m (pc + 1) ls (.int (z0.2 18 i.toNatClampNeg) :: rest))) : W p l e Rm s m args below meth c H locs 0 0 Q (F0 m pc ls (.int i :: .ref (ad 27) :: rest)) :=
  va_iald (D := (dC, dI)) hx hb hK hP 27 0 rfl rfl hi hdg kk
theorem xs_18 (hx : p.tables.exec = Jvm.exec) (hb : c.code = cc) (hK : va_K (dC, dI) q_cl [(cI, .int), (cZ, .boolean)] s) (hP : va_P (dC, dI) q_cl (wX cI cZ ad z0) H) (hD : va_D A (wX cI cZ ad z0)) (hS : va_S A H0 H locs) (hi : vp_in i 6) (hdg : decode cc pc = .ok (.iastore, 1)) (es : z1 = stA z0 18 (upd (z0.2 18) i.toNatClampNeg v)) (kk : ∀ (H1 : Heap) (locs1 : List Loc), va_P (dC, dI) q_cl (wX cI cZ ad z1) H1 → va_D A (wX cI cZ ad z1) → va_S A H0 H1 locs1 → W p l e Rm s m args below meth c H1 locs1 0 0 Q (F0 m (pc + 1) ls rest)) : W p l e Rm s m args below meth c H locs 0 0 Q (F0 m pc ls (.int v :: .int i :: .ref (ad 27) :: rest)) := by
  subst es
  exact va_iast (D := (dC, dI)) hx hb hK hP hD hS 27 0 rfl rfl hi hdg (fun H1 locs1 a b d => kk H1 locs1 (a) (b) d)
theorem xl_19 (hx : p.tables.exec = Jvm.exec) (hb : c.code = cc) (hK : va_K (dC, dI) q_cl [(cI, .int), (cZ, .boolean)] s) (hP : va_P (dC, dI) q_cl (wX cI cZ ad z0) H) (hi : vp_in i 6) (hdg : decode cc pc = .ok (.baload, 1)) (kk : W p l e Rm s m args below meth c H locs 0 0 Q (F0 m (pc + 1) ls (.int (z0.2 19 i.toNatClampNeg) :: rest))) : W p l e Rm s m args below meth c H locs 0 0 Q (F0 m pc ls (.int i :: .ref (ad 28) :: rest)) :=
  va_zald (D := (dC, dI)) hx hb hK hP 28 1 rfl rfl hi hdg kk
theorem xs_19 (hx : p.tables.exec = Jvm.exec) (hb : c.code = cc) (hK : va_K (dC, dI) q_cl [(cI, .int), (cZ, .boolean)] s) (hP : va_P (dC, dI) q_cl (wX cI cZ ad z0) H) (hD : va_D A (wX cI cZ ad z0)) (hS : va_S A H0 H locs) (hi : vp_in i 6) (hv : v = 0 ∨ v = 1) (hdg : decode cc pc = .ok (.bastore, 1)) (es : z1 = stA z0 19 (upd (z0.2 19) i.toNatClampNeg v)) (kk : ∀ (H1 : Heap) (locs1 : List Loc), va_P (dC, dI) q_cl (wX cI cZ ad z1) H1 → va_D A (wX cI cZ ad z1) → va_S A H0 H1 locs1 → W p l e Rm s m args below meth c H1 locs1 0 0 Q (F0 m (pc + 1) ls rest)) : W p l e Rm s m args below meth c H locs 0 0 Q (F0 m pc ls (.int v :: .int i :: .ref (ad 28) :: rest)) := by
  subst es
  exact va_zast (D := (dC, dI)) hx hb hK hP hD hS 28 1 rfl rfl hi hdg (fun H1 locs1 a b d => kk H1 locs1 (by rw [vB hv] at a; exact a) (by rw [vB hv] at b; exact b) d)
theorem xg_29_handed (hx : p.tables.exec = Jvm.exec) (hb : c.code = cc) (hts : ∀ w ∈ Ts, w.before args s = true) (hin : ∀ w ∈ u_ws R_AddressStream F_AddressStream 7, w ∈ Ts) (hown : s.vm.findClass own = some m.cls) (hK : va_K (dC, dI) q_cl [(cI, .int), (cZ, .boolean)] s) (hP : va_P (dC, dI) q_cl (wX cI cZ ad z0) H) (hlink : (Cond.fieldLink own index ref "handed" "Z").before args s = true) (hsame : ∀ x, s.fieldFound? "SlippedStreams$AddressStream" "handed" "Z" = some x → s.fieldFound? ref "handed" "Z" = some x) (hdg : decode cc pc = .ok (.getfield index, 3)) (kk : W p l e Rm s m args below meth c H locs 0 0 Q (F0 m (pc + 3) ls (.int (z0.1 17) :: rest))) : W p l e Rm s m args below meth c H locs 0 0 Q (F0 m pc ls (.ref (ad 29) :: rest)) :=
  va_get (D := (dC, dI)) (ci := 5) hx hb hts hin hown hK hP 29 rfl rfl 0 (by decide) hlink hsame rfl hdg kk
theorem xp_29_handed (hx : p.tables.exec = Jvm.exec) (hb : c.code = cc) (hts : ∀ w ∈ Ts, w.before args s = true) (hin : ∀ w ∈ u_ws R_AddressStream F_AddressStream 7, w ∈ Ts) (hown : s.vm.findClass own = some m.cls) (hK : va_K (dC, dI) q_cl [(cI, .int), (cZ, .boolean)] s) (hP : va_P (dC, dI) q_cl (wX cI cZ ad z0) H) (hD : va_D A (wX cI cZ ad z0)) (hS : va_S A H0 H locs) (hlink : (Cond.fieldLink own index ref "handed" "Z").before args s = true) (hsame : ∀ x, s.fieldFound? "SlippedStreams$AddressStream" "handed" "Z" = some x → s.fieldFound? ref "handed" "Z" = some x) (hv : v = 0 ∨ v = 1) (hdg : decode cc pc = .ok (.putfield index, 3)) (es : z1 = stI z0 17 v) (kk : ∀ (H1 : Heap) (locs1 : List Loc), va_P (dC, dI) q_cl (wX cI cZ ad z1) H1 → va_D A (wX cI cZ ad z1) → va_S A H0 H1 locs1 → W p l e Rm s m args below meth c H1 locs1 0 0 Q (F0 m (pc + 3) ls rest)) : W p l e Rm s m args below meth c H locs 0 0 Q (F0 m pc ls (.int v :: .ref (ad 29) :: rest)) := by
  subst es
  exact va_put (D := (dC, dI)) (ci := 5) (ty := .boolean) hx hb hts hin t_AddressStream t_AddressStream_ok n_AddressStream hown hK hP hD hS 29 rfl rfl 0 (by decide) hlink hsame rfl (by decide +kernel) (nB hv) (fB hv) (Nat.le_of_ble_eq_true rfl) hdg (fun H1 locs1 a b d => kk H1 locs1 a b d)
theorem xg_29_link (hx : p.tables.exec = Jvm.exec) (hb : c.code = cc) (hts : ∀ w ∈ Ts, w.before args s = true) (hin : ∀ w ∈ u_ws R_AddressStream F_AddressStream 7, w ∈ Ts) (hown : s.vm.findClass own = some m.cls) (hK : va_K (dC, dI) q_cl [(cI, .int), (cZ, .boolean)] s) (hP : va_P (dC, dI) q_cl (wX cI cZ ad z0) H) (hlink : (Cond.fieldLink own index ref "link" "LSlippedStreams$Link;").before args s = true) (hsame : ∀ x, s.fieldFound? "SlippedStreams$Stream" "link" "LSlippedStreams$Link;" = some x → s.fieldFound? ref "link" "LSlippedStreams$Link;" = some x) (hdg : decode cc pc = .ok (.getfield index, 3)) (kk : W p l e Rm s m args below meth c H locs 0 0 Q (F0 m (pc + 3) ls (.ref (ad 13) :: rest))) : W p l e Rm s m args below meth c H locs 0 0 Q (F0 m pc ls (.ref (ad 29) :: rest)) :=
  va_get (D := (dC, dI)) (ci := 5) hx hb hts hin hown hK hP 29 rfl rfl 1 (by decide) hlink hsame rfl hdg kk
theorem xg_29_nothings (hx : p.tables.exec = Jvm.exec) (hb : c.code = cc) (hts : ∀ w ∈ Ts, w.before args s = true) (hin : ∀ w ∈ u_ws R_AddressStream F_AddressStream 7, w ∈ Ts) (hown : s.vm.findClass own = some m.cls) (hK : va_K (dC, dI) q_cl [(cI, .int), (cZ, .boolean)] s) (hP : va_P (dC, dI) q_cl (wX cI cZ ad z0) H) (hlink : (Cond.fieldLink own index ref "nothings" "[Z").before args s = true) (hsame : ∀ x, s.fieldFound? "SlippedStreams$Stream" "nothings" "[Z" = some x → s.fieldFound? ref "nothings" "[Z" = some x) (hdg : decode cc pc = .ok (.getfield index, 3)) (kk : W p l e Rm s m args below meth c H locs 0 0 Q (F0 m (pc + 3) ls (.ref (ad 10) :: rest))) : W p l e Rm s m args below meth c H locs 0 0 Q (F0 m pc ls (.ref (ad 29) :: rest)) :=
  va_get (D := (dC, dI)) (ci := 5) hx hb hts hin hown hK hP 29 rfl rfl 2 (by decide) hlink hsame rfl hdg kk
theorem xg_29_left (hx : p.tables.exec = Jvm.exec) (hb : c.code = cc) (hts : ∀ w ∈ Ts, w.before args s = true) (hin : ∀ w ∈ u_ws R_AddressStream F_AddressStream 7, w ∈ Ts) (hown : s.vm.findClass own = some m.cls) (hK : va_K (dC, dI) q_cl [(cI, .int), (cZ, .boolean)] s) (hP : va_P (dC, dI) q_cl (wX cI cZ ad z0) H) (hlink : (Cond.fieldLink own index ref "left" "I").before args s = true) (hsame : ∀ x, s.fieldFound? "SlippedStreams$Stream" "left" "I" = some x → s.fieldFound? ref "left" "I" = some x) (hdg : decode cc pc = .ok (.getfield index, 3)) (kk : W p l e Rm s m args below meth c H locs 0 0 Q (F0 m (pc + 3) ls (.int (z0.1 16) :: rest))) : W p l e Rm s m args below meth c H locs 0 0 Q (F0 m pc ls (.ref (ad 29) :: rest)) :=
  va_get (D := (dC, dI)) (ci := 5) hx hb hts hin hown hK hP 29 rfl rfl 3 (by decide) hlink hsame rfl hdg kk
theorem xp_29_left (hx : p.tables.exec = Jvm.exec) (hb : c.code = cc) (hts : ∀ w ∈ Ts, w.before args s = true) (hin : ∀ w ∈ u_ws R_AddressStream F_AddressStream 7, w ∈ Ts) (hown : s.vm.findClass own = some m.cls) (hK : va_K (dC, dI) q_cl [(cI, .int), (cZ, .boolean)] s) (hP : va_P (dC, dI) q_cl (wX cI cZ ad z0) H) (hD : va_D A (wX cI cZ ad z0)) (hS : va_S A H0 H locs) (hlink : (Cond.fieldLink own index ref "left" "I").before args s = true) (hsame : ∀ x, s.fieldFound? "SlippedStreams$Stream" "left" "I" = some x → s.fieldFound? ref "left" "I" = some x) (hdg : decode cc pc = .ok (.putfield index, 3)) (es : z1 = stI z0 16 v) (kk : ∀ (H1 : Heap) (locs1 : List Loc), va_P (dC, dI) q_cl (wX cI cZ ad z1) H1 → va_D A (wX cI cZ ad z1) → va_S A H0 H1 locs1 → W p l e Rm s m args below meth c H1 locs1 0 0 Q (F0 m (pc + 3) ls rest)) : W p l e Rm s m args below meth c H locs 0 0 Q (F0 m pc ls (.int v :: .ref (ad 29) :: rest)) := by
  subst es
  exact va_put (D := (dC, dI)) (ci := 5) (ty := .int) hx hb hts hin t_AddressStream t_AddressStream_ok n_AddressStream hown hK hP hD hS 29 rfl rfl 3 (by decide) hlink hsame rfl (by decide +kernel) rfl rfl (Nat.le_of_ble_eq_true rfl) hdg (fun H1 locs1 a b d => kk H1 locs1 a b d)
theorem xg_29_program (hx : p.tables.exec = Jvm.exec) (hb : c.code = cc) (hts : ∀ w ∈ Ts, w.before args s = true) (hin : ∀ w ∈ u_ws R_AddressStream F_AddressStream 7, w ∈ Ts) (hown : s.vm.findClass own = some m.cls) (hK : va_K (dC, dI) q_cl [(cI, .int), (cZ, .boolean)] s) (hP : va_P (dC, dI) q_cl (wX cI cZ ad z0) H) (hlink : (Cond.fieldLink own index ref "program" "LSlippedStreams$Program;").before args s = true) (hsame : ∀ x, s.fieldFound? "SlippedStreams$Run" "program" "LSlippedStreams$Program;" = some x → s.fieldFound? ref "program" "LSlippedStreams$Program;" = some x) (hdg : decode cc pc = .ok (.getfield index, 3)) (kk : W p l e Rm s m args below meth c H locs 0 0 Q (F0 m (pc + 3) ls (.ref (ad 1) :: rest))) : W p l e Rm s m args below meth c H locs 0 0 Q (F0 m pc ls (.ref (ad 29) :: rest)) :=
  va_get (D := (dC, dI)) (ci := 5) hx hb hts hin hown hK hP 29 rfl rfl 4 (by decide) hlink hsame rfl hdg kk
theorem xg_29_registers (hx : p.tables.exec = Jvm.exec) (hb : c.code = cc) (hts : ∀ w ∈ Ts, w.before args s = true) (hin : ∀ w ∈ u_ws R_AddressStream F_AddressStream 7, w ∈ Ts) (hown : s.vm.findClass own = some m.cls) (hK : va_K (dC, dI) q_cl [(cI, .int), (cZ, .boolean)] s) (hP : va_P (dC, dI) q_cl (wX cI cZ ad z0) H) (hlink : (Cond.fieldLink own index ref "registers" "[I").before args s = true) (hsame : ∀ x, s.fieldFound? "SlippedStreams$Run" "registers" "[I" = some x → s.fieldFound? ref "registers" "[I" = some x) (hdg : decode cc pc = .ok (.getfield index, 3)) (kk : W p l e Rm s m args below meth c H locs 0 0 Q (F0 m (pc + 3) ls (.ref (ad 30) :: rest))) : W p l e Rm s m args below meth c H locs 0 0 Q (F0 m pc ls (.ref (ad 29) :: rest)) :=
  va_get (D := (dC, dI)) (ci := 5) hx hb hts hin hown hK hP 29 rfl rfl 5 (by decide) hlink hsame rfl hdg kk
theorem xg_29_at (hx : p.tables.exec = Jvm.exec) (hb : c.code = cc) (hts : ∀ w ∈ Ts, w.before args s = true) (hin : ∀ w ∈ u_ws R_AddressStream F_AddressStream 7, w ∈ Ts) (hown : s.vm.findClass own = some m.cls) (hK : va_K (dC, dI) q_cl [(cI, .int), (cZ, .boolean)] s) (hP : va_P (dC, dI) q_cl (wX cI cZ ad z0) H) (hlink : (Cond.fieldLink own index ref "at" "I").before args s = true) (hsame : ∀ x, s.fieldFound? "SlippedStreams$Run" "at" "I" = some x → s.fieldFound? ref "at" "I" = some x) (hdg : decode cc pc = .ok (.getfield index, 3)) (kk : W p l e Rm s m args below meth c H locs 0 0 Q (F0 m (pc + 3) ls (.int (z0.1 15) :: rest))) : W p l e Rm s m args below meth c H locs 0 0 Q (F0 m pc ls (.ref (ad 29) :: rest)) :=
  va_get (D := (dC, dI)) (ci := 5) hx hb hts hin hown hK hP 29 rfl rfl 6 (by decide) hlink hsame rfl hdg kk
theorem xp_29_at (hx : p.tables.exec = Jvm.exec) (hb : c.code = cc) (hts : ∀ w ∈ Ts, w.before args s = true) (hin : ∀ w ∈ u_ws R_AddressStream F_AddressStream 7, w ∈ Ts) (hown : s.vm.findClass own = some m.cls) (hK : va_K (dC, dI) q_cl [(cI, .int), (cZ, .boolean)] s) (hP : va_P (dC, dI) q_cl (wX cI cZ ad z0) H) (hD : va_D A (wX cI cZ ad z0)) (hS : va_S A H0 H locs) (hlink : (Cond.fieldLink own index ref "at" "I").before args s = true) (hsame : ∀ x, s.fieldFound? "SlippedStreams$Run" "at" "I" = some x → s.fieldFound? ref "at" "I" = some x) (hdg : decode cc pc = .ok (.putfield index, 3)) (es : z1 = stI z0 15 v) (kk : ∀ (H1 : Heap) (locs1 : List Loc), va_P (dC, dI) q_cl (wX cI cZ ad z1) H1 → va_D A (wX cI cZ ad z1) → va_S A H0 H1 locs1 → W p l e Rm s m args below meth c H1 locs1 0 0 Q (F0 m (pc + 3) ls rest)) : W p l e Rm s m args below meth c H locs 0 0 Q (F0 m pc ls (.int v :: .ref (ad 29) :: rest)) := by
  subst es
  exact va_put (D := (dC, dI)) (ci := 5) (ty := .int) hx hb hts hin t_AddressStream t_AddressStream_ok n_AddressStream hown hK hP hD hS 29 rfl rfl 6 (by decide) hlink hsame rfl (by decide +kernel) rfl rfl (Nat.le_of_ble_eq_true rfl) hdg (fun H1 locs1 a b d => kk H1 locs1 a b d)
theorem xl_20 (hx : p.tables.exec = Jvm.exec) (hb : c.code = cc) (hK : va_K (dC, dI) q_cl [(cI, .int), (cZ, .boolean)] s) (hP : va_P (dC, dI) q_cl (wX cI cZ ad z0) H) (hi : vp_in i 8) (hdg : decode cc pc = .ok (.iaload, 1)) (kk : W p l e Rm s m args below meth c H locs 0 0 Q (F0 m (pc + 1) ls (.int (z0.2 20 i.toNatClampNeg) :: rest))) : W p l e Rm s m args below meth c H locs 0 0 Q (F0 m pc ls (.int i :: .ref (ad 30) :: rest)) :=
  va_iald (D := (dC, dI)) hx hb hK hP 30 0 rfl rfl hi hdg kk
theorem xs_20 (hx : p.tables.exec = Jvm.exec) (hb : c.code = cc) (hK : va_K (dC, dI) q_cl [(cI, .int), (cZ, .boolean)] s) (hP : va_P (dC, dI) q_cl (wX cI cZ ad z0) H) (hD : va_D A (wX cI cZ ad z0)) (hS : va_S A H0 H locs) (hi : vp_in i 8) (hdg : decode cc pc = .ok (.iastore, 1)) (es : z1 = stA z0 20 (upd (z0.2 20) i.toNatClampNeg v)) (kk : ∀ (H1 : Heap) (locs1 : List Loc), va_P (dC, dI) q_cl (wX cI cZ ad z1) H1 → va_D A (wX cI cZ ad z1) → va_S A H0 H1 locs1 → W p l e Rm s m args below meth c H1 locs1 0 0 Q (F0 m (pc + 1) ls rest)) : W p l e Rm s m args below meth c H locs 0 0 Q (F0 m pc ls (.int v :: .int i :: .ref (ad 30) :: rest)) := by
  subst es
  exact va_iast (D := (dC, dI)) hx hb hK hP hD hS 30 0 rfl rfl hi hdg (fun H1 locs1 a b d => kk H1 locs1 (a) (b) d)
theorem xg_31_written (hx : p.tables.exec = Jvm.exec) (hb : c.code = cc) (hts : ∀ w ∈ Ts, w.before args s = true) (hin : ∀ w ∈ u_ws R_ValueStream F_ValueStream 7, w ∈ Ts) (hown : s.vm.findClass own = some m.cls) (hK : va_K (dC, dI) q_cl [(cI, .int), (cZ, .boolean)] s) (hP : va_P (dC, dI) q_cl (wX cI cZ ad z0) H) (hlink : (Cond.fieldLink own index ref "written" "LSlippedStreams$Written;").before args s = true) (hsame : ∀ x, s.fieldFound? "SlippedStreams$ValueStream" "written" "LSlippedStreams$Written;" = some x → s.fieldFound? ref "written" "LSlippedStreams$Written;" = some x) (hdg : decode cc pc = .ok (.getfield index, 3)) (kk : W p l e Rm s m args below meth c H locs 0 0 Q (F0 m (pc + 3) ls (.ref (ad 33) :: rest))) : W p l e Rm s m args below meth c H locs 0 0 Q (F0 m pc ls (.ref (ad 31) :: rest)) :=
  va_get (D := (dC, dI)) (ci := 6) hx hb hts hin hown hK hP 31 rfl rfl 0 (by decide) hlink hsame rfl hdg kk
theorem xg_31_link (hx : p.tables.exec = Jvm.exec) (hb : c.code = cc) (hts : ∀ w ∈ Ts, w.before args s = true) (hin : ∀ w ∈ u_ws R_ValueStream F_ValueStream 7, w ∈ Ts) (hown : s.vm.findClass own = some m.cls) (hK : va_K (dC, dI) q_cl [(cI, .int), (cZ, .boolean)] s) (hP : va_P (dC, dI) q_cl (wX cI cZ ad z0) H) (hlink : (Cond.fieldLink own index ref "link" "LSlippedStreams$Link;").before args s = true) (hsame : ∀ x, s.fieldFound? "SlippedStreams$Stream" "link" "LSlippedStreams$Link;" = some x → s.fieldFound? ref "link" "LSlippedStreams$Link;" = some x) (hdg : decode cc pc = .ok (.getfield index, 3)) (kk : W p l e Rm s m args below meth c H locs 0 0 Q (F0 m (pc + 3) ls (.ref (ad 13) :: rest))) : W p l e Rm s m args below meth c H locs 0 0 Q (F0 m pc ls (.ref (ad 31) :: rest)) :=
  va_get (D := (dC, dI)) (ci := 6) hx hb hts hin hown hK hP 31 rfl rfl 1 (by decide) hlink hsame rfl hdg kk
theorem xg_31_nothings (hx : p.tables.exec = Jvm.exec) (hb : c.code = cc) (hts : ∀ w ∈ Ts, w.before args s = true) (hin : ∀ w ∈ u_ws R_ValueStream F_ValueStream 7, w ∈ Ts) (hown : s.vm.findClass own = some m.cls) (hK : va_K (dC, dI) q_cl [(cI, .int), (cZ, .boolean)] s) (hP : va_P (dC, dI) q_cl (wX cI cZ ad z0) H) (hlink : (Cond.fieldLink own index ref "nothings" "[Z").before args s = true) (hsame : ∀ x, s.fieldFound? "SlippedStreams$Stream" "nothings" "[Z" = some x → s.fieldFound? ref "nothings" "[Z" = some x) (hdg : decode cc pc = .ok (.getfield index, 3)) (kk : W p l e Rm s m args below meth c H locs 0 0 Q (F0 m (pc + 3) ls (.ref (ad 11) :: rest))) : W p l e Rm s m args below meth c H locs 0 0 Q (F0 m pc ls (.ref (ad 31) :: rest)) :=
  va_get (D := (dC, dI)) (ci := 6) hx hb hts hin hown hK hP 31 rfl rfl 2 (by decide) hlink hsame rfl hdg kk
theorem xg_31_left (hx : p.tables.exec = Jvm.exec) (hb : c.code = cc) (hts : ∀ w ∈ Ts, w.before args s = true) (hin : ∀ w ∈ u_ws R_ValueStream F_ValueStream 7, w ∈ Ts) (hown : s.vm.findClass own = some m.cls) (hK : va_K (dC, dI) q_cl [(cI, .int), (cZ, .boolean)] s) (hP : va_P (dC, dI) q_cl (wX cI cZ ad z0) H) (hlink : (Cond.fieldLink own index ref "left" "I").before args s = true) (hsame : ∀ x, s.fieldFound? "SlippedStreams$Stream" "left" "I" = some x → s.fieldFound? ref "left" "I" = some x) (hdg : decode cc pc = .ok (.getfield index, 3)) (kk : W p l e Rm s m args below meth c H locs 0 0 Q (F0 m (pc + 3) ls (.int (z0.1 19) :: rest))) : W p l e Rm s m args below meth c H locs 0 0 Q (F0 m pc ls (.ref (ad 31) :: rest)) :=
  va_get (D := (dC, dI)) (ci := 6) hx hb hts hin hown hK hP 31 rfl rfl 3 (by decide) hlink hsame rfl hdg kk
theorem xp_31_left (hx : p.tables.exec = Jvm.exec) (hb : c.code = cc) (hts : ∀ w ∈ Ts, w.before args s = true) (hin : ∀ w ∈ u_ws R_ValueStream F_ValueStream 7, w ∈ Ts) (hown : s.vm.findClass own = some m.cls) (hK : va_K (dC, dI) q_cl [(cI, .int), (cZ, .boolean)] s) (hP : va_P (dC, dI) q_cl (wX cI cZ ad z0) H) (hD : va_D A (wX cI cZ ad z0)) (hS : va_S A H0 H locs) (hlink : (Cond.fieldLink own index ref "left" "I").before args s = true) (hsame : ∀ x, s.fieldFound? "SlippedStreams$Stream" "left" "I" = some x → s.fieldFound? ref "left" "I" = some x) (hdg : decode cc pc = .ok (.putfield index, 3)) (es : z1 = stI z0 19 v) (kk : ∀ (H1 : Heap) (locs1 : List Loc), va_P (dC, dI) q_cl (wX cI cZ ad z1) H1 → va_D A (wX cI cZ ad z1) → va_S A H0 H1 locs1 → W p l e Rm s m args below meth c H1 locs1 0 0 Q (F0 m (pc + 3) ls rest)) : W p l e Rm s m args below meth c H locs 0 0 Q (F0 m pc ls (.int v :: .ref (ad 31) :: rest)) := by
  subst es
  exact va_put (D := (dC, dI)) (ci := 6) (ty := .int) hx hb hts hin t_ValueStream t_ValueStream_ok n_ValueStream hown hK hP hD hS 31 rfl rfl 3 (by decide) hlink hsame rfl (by decide +kernel) rfl rfl (Nat.le_of_ble_eq_true rfl) hdg (fun H1 locs1 a b d => kk H1 locs1 a b d)
theorem xg_31_program (hx : p.tables.exec = Jvm.exec) (hb : c.code = cc) (hts : ∀ w ∈ Ts, w.before args s = true) (hin : ∀ w ∈ u_ws R_ValueStream F_ValueStream 7, w ∈ Ts) (hown : s.vm.findClass own = some m.cls) (hK : va_K (dC, dI) q_cl [(cI, .int), (cZ, .boolean)] s) (hP : va_P (dC, dI) q_cl (wX cI cZ ad z0) H) (hlink : (Cond.fieldLink own index ref "program" "LSlippedStreams$Program;").before args s = true) (hsame : ∀ x, s.fieldFound? "SlippedStreams$Run" "program" "LSlippedStreams$Program;" = some x → s.fieldFound? ref "program" "LSlippedStreams$Program;" = some x) (hdg : decode cc pc = .ok (.getfield index, 3)) (kk : W p l e Rm s m args below meth c H locs 0 0 Q (F0 m (pc + 3) ls (.ref (ad 1) :: rest))) : W p l e Rm s m args below meth c H locs 0 0 Q (F0 m pc ls (.ref (ad 31) :: rest)) :=
  va_get (D := (dC, dI)) (ci := 6) hx hb hts hin hown hK hP 31 rfl rfl 4 (by decide) hlink hsame rfl hdg kk
theorem xg_31_registers (hx : p.tables.exec = Jvm.exec) (hb : c.code = cc) (hts : ∀ w ∈ Ts, w.before args s = true) (hin : ∀ w ∈ u_ws R_ValueStream F_ValueStream 7, w ∈ Ts) (hown : s.vm.findClass own = some m.cls) (hK : va_K (dC, dI) q_cl [(cI, .int), (cZ, .boolean)] s) (hP : va_P (dC, dI) q_cl (wX cI cZ ad z0) H) (hlink : (Cond.fieldLink own index ref "registers" "[I").before args s = true) (hsame : ∀ x, s.fieldFound? "SlippedStreams$Run" "registers" "[I" = some x → s.fieldFound? ref "registers" "[I" = some x) (hdg : decode cc pc = .ok (.getfield index, 3)) (kk : W p l e Rm s m args below meth c H locs 0 0 Q (F0 m (pc + 3) ls (.ref (ad 32) :: rest))) : W p l e Rm s m args below meth c H locs 0 0 Q (F0 m pc ls (.ref (ad 31) :: rest)) :=
  va_get (D := (dC, dI)) (ci := 6) hx hb hts hin hown hK hP 31 rfl rfl 5 (by decide) hlink hsame rfl hdg kk
theorem xg_31_at (hx : p.tables.exec = Jvm.exec) (hb : c.code = cc) (hts : ∀ w ∈ Ts, w.before args s = true) (hin : ∀ w ∈ u_ws R_ValueStream F_ValueStream 7, w ∈ Ts) (hown : s.vm.findClass own = some m.cls) (hK : va_K (dC, dI) q_cl [(cI, .int), (cZ, .boolean)] s) (hP : va_P (dC, dI) q_cl (wX cI cZ ad z0) H) (hlink : (Cond.fieldLink own index ref "at" "I").before args s = true) (hsame : ∀ x, s.fieldFound? "SlippedStreams$Run" "at" "I" = some x → s.fieldFound? ref "at" "I" = some x) (hdg : decode cc pc = .ok (.getfield index, 3)) (kk : W p l e Rm s m args below meth c H locs 0 0 Q (F0 m (pc + 3) ls (.int (z0.1 18) :: rest))) : W p l e Rm s m args below meth c H locs 0 0 Q (F0 m pc ls (.ref (ad 31) :: rest)) :=
  va_get (D := (dC, dI)) (ci := 6) hx hb hts hin hown hK hP 31 rfl rfl 6 (by decide) hlink hsame rfl hdg kk
theorem xp_31_at (hx : p.tables.exec = Jvm.exec) (hb : c.code = cc) (hts : ∀ w ∈ Ts, w.before args s = true) (hin : ∀ w ∈ u_ws R_ValueStream F_ValueStream 7, w ∈ Ts) (hown : s.vm.findClass own = some m.cls) (hK : va_K (dC, dI) q_cl [(cI, .int), (cZ, .boolean)] s) (hP : va_P (dC, dI) q_cl (wX cI cZ ad z0) H) (hD : va_D A (wX cI cZ ad z0)) (hS : va_S A H0 H locs) (hlink : (Cond.fieldLink own index ref "at" "I").before args s = true) (hsame : ∀ x, s.fieldFound? "SlippedStreams$Run" "at" "I" = some x → s.fieldFound? ref "at" "I" = some x) (hdg : decode cc pc = .ok (.putfield index, 3)) (es : z1 = stI z0 18 v) (kk : ∀ (H1 : Heap) (locs1 : List Loc), va_P (dC, dI) q_cl (wX cI cZ ad z1) H1 → va_D A (wX cI cZ ad z1) → va_S A H0 H1 locs1 → W p l e Rm s m args below meth c H1 locs1 0 0 Q (F0 m (pc + 3) ls rest)) : W p l e Rm s m args below meth c H locs 0 0 Q (F0 m pc ls (.int v :: .ref (ad 31) :: rest)) := by
  subst es
  exact va_put (D := (dC, dI)) (ci := 6) (ty := .int) hx hb hts hin t_ValueStream t_ValueStream_ok n_ValueStream hown hK hP hD hS 31 rfl rfl 6 (by decide) hlink hsame rfl (by decide +kernel) rfl rfl (Nat.le_of_ble_eq_true rfl) hdg (fun H1 locs1 a b d => kk H1 locs1 a b d)
theorem xl_21 (hx : p.tables.exec = Jvm.exec) (hb : c.code = cc) (hK : va_K (dC, dI) q_cl [(cI, .int), (cZ, .boolean)] s) (hP : va_P (dC, dI) q_cl (wX cI cZ ad z0) H) (hi : vp_in i 8) (hdg : decode cc pc = .ok (.iaload, 1)) (kk : W p l e Rm s m args below meth c H locs 0 0 Q (F0 m (pc + 1) ls (.int (z0.2 21 i.toNatClampNeg) :: rest))) : W p l e Rm s m args below meth c H locs 0 0 Q (F0 m pc ls (.int i :: .ref (ad 32) :: rest)) :=
  va_iald (D := (dC, dI)) hx hb hK hP 32 0 rfl rfl hi hdg kk
theorem xs_21 (hx : p.tables.exec = Jvm.exec) (hb : c.code = cc) (hK : va_K (dC, dI) q_cl [(cI, .int), (cZ, .boolean)] s) (hP : va_P (dC, dI) q_cl (wX cI cZ ad z0) H) (hD : va_D A (wX cI cZ ad z0)) (hS : va_S A H0 H locs) (hi : vp_in i 8) (hdg : decode cc pc = .ok (.iastore, 1)) (es : z1 = stA z0 21 (upd (z0.2 21) i.toNatClampNeg v)) (kk : ∀ (H1 : Heap) (locs1 : List Loc), va_P (dC, dI) q_cl (wX cI cZ ad z1) H1 → va_D A (wX cI cZ ad z1) → va_S A H0 H1 locs1 → W p l e Rm s m args below meth c H1 locs1 0 0 Q (F0 m (pc + 1) ls rest)) : W p l e Rm s m args below meth c H locs 0 0 Q (F0 m pc ls (.int v :: .int i :: .ref (ad 32) :: rest)) := by
  subst es
  exact va_iast (D := (dC, dI)) hx hb hK hP hD hS 32 0 rfl rfl hi hdg (fun H1 locs1 a b d => kk H1 locs1 (a) (b) d)
theorem xg_33_kept (hx : p.tables.exec = Jvm.exec) (hb : c.code = cc) (hts : ∀ w ∈ Ts, w.before args s = true) (hin : ∀ w ∈ u_ws R_Written F_Written 2, w ∈ Ts) (hown : s.vm.findClass own = some m.cls) (hK : va_K (dC, dI) q_cl [(cI, .int), (cZ, .boolean)] s) (hP : va_P (dC, dI) q_cl (wX cI cZ ad z0) H) (hlink : (Cond.fieldLink own index ref "kept" "[I").before args s = true) (hsame : ∀ x, s.fieldFound? "SlippedStreams$Written" "kept" "[I" = some x → s.fieldFound? ref "kept" "[I" = some x) (hdg : decode cc pc = .ok (.getfield index, 3)) (kk : W p l e Rm s m args below meth c H locs 0 0 Q (F0 m (pc + 3) ls (.ref (ad 34) :: rest))) : W p l e Rm s m args below meth c H locs 0 0 Q (F0 m pc ls (.ref (ad 33) :: rest)) :=
  va_get (D := (dC, dI)) (ci := 7) hx hb hts hin hown hK hP 33 rfl rfl 0 (by decide) hlink hsame rfl hdg kk
theorem xg_33_count (hx : p.tables.exec = Jvm.exec) (hb : c.code = cc) (hts : ∀ w ∈ Ts, w.before args s = true) (hin : ∀ w ∈ u_ws R_Written F_Written 2, w ∈ Ts) (hown : s.vm.findClass own = some m.cls) (hK : va_K (dC, dI) q_cl [(cI, .int), (cZ, .boolean)] s) (hP : va_P (dC, dI) q_cl (wX cI cZ ad z0) H) (hlink : (Cond.fieldLink own index ref "count" "I").before args s = true) (hsame : ∀ x, s.fieldFound? "SlippedStreams$Written" "count" "I" = some x → s.fieldFound? ref "count" "I" = some x) (hdg : decode cc pc = .ok (.getfield index, 3)) (kk : W p l e Rm s m args below meth c H locs 0 0 Q (F0 m (pc + 3) ls (.int (z0.1 20) :: rest))) : W p l e Rm s m args below meth c H locs 0 0 Q (F0 m pc ls (.ref (ad 33) :: rest)) :=
  va_get (D := (dC, dI)) (ci := 7) hx hb hts hin hown hK hP 33 rfl rfl 1 (by decide) hlink hsame rfl hdg kk
theorem xp_33_count (hx : p.tables.exec = Jvm.exec) (hb : c.code = cc) (hts : ∀ w ∈ Ts, w.before args s = true) (hin : ∀ w ∈ u_ws R_Written F_Written 2, w ∈ Ts) (hown : s.vm.findClass own = some m.cls) (hK : va_K (dC, dI) q_cl [(cI, .int), (cZ, .boolean)] s) (hP : va_P (dC, dI) q_cl (wX cI cZ ad z0) H) (hD : va_D A (wX cI cZ ad z0)) (hS : va_S A H0 H locs) (hlink : (Cond.fieldLink own index ref "count" "I").before args s = true) (hsame : ∀ x, s.fieldFound? "SlippedStreams$Written" "count" "I" = some x → s.fieldFound? ref "count" "I" = some x) (hdg : decode cc pc = .ok (.putfield index, 3)) (es : z1 = stI z0 20 v) (kk : ∀ (H1 : Heap) (locs1 : List Loc), va_P (dC, dI) q_cl (wX cI cZ ad z1) H1 → va_D A (wX cI cZ ad z1) → va_S A H0 H1 locs1 → W p l e Rm s m args below meth c H1 locs1 0 0 Q (F0 m (pc + 3) ls rest)) : W p l e Rm s m args below meth c H locs 0 0 Q (F0 m pc ls (.int v :: .ref (ad 33) :: rest)) := by
  subst es
  exact va_put (D := (dC, dI)) (ci := 7) (ty := .int) hx hb hts hin t_Written t_Written_ok n_Written hown hK hP hD hS 33 rfl rfl 1 (by decide) hlink hsame rfl (by decide +kernel) rfl rfl (Nat.le_of_ble_eq_true rfl) hdg (fun H1 locs1 a b d => kk H1 locs1 a b d)
theorem xl_22 (hx : p.tables.exec = Jvm.exec) (hb : c.code = cc) (hK : va_K (dC, dI) q_cl [(cI, .int), (cZ, .boolean)] s) (hP : va_P (dC, dI) q_cl (wX cI cZ ad z0) H) (hi : vp_in i 64) (hdg : decode cc pc = .ok (.iaload, 1)) (kk : W p l e Rm s m args below meth c H locs 0 0 Q (F0 m (pc + 1) ls (.int (z0.2 22 i.toNatClampNeg) :: rest))) : W p l e Rm s m args below meth c H locs 0 0 Q (F0 m pc ls (.int i :: .ref (ad 34) :: rest)) :=
  va_iald (D := (dC, dI)) hx hb hK hP 34 0 rfl rfl hi hdg kk
theorem xs_22 (hx : p.tables.exec = Jvm.exec) (hb : c.code = cc) (hK : va_K (dC, dI) q_cl [(cI, .int), (cZ, .boolean)] s) (hP : va_P (dC, dI) q_cl (wX cI cZ ad z0) H) (hD : va_D A (wX cI cZ ad z0)) (hS : va_S A H0 H locs) (hi : vp_in i 64) (hdg : decode cc pc = .ok (.iastore, 1)) (es : z1 = stA z0 22 (upd (z0.2 22) i.toNatClampNeg v)) (kk : ∀ (H1 : Heap) (locs1 : List Loc), va_P (dC, dI) q_cl (wX cI cZ ad z1) H1 → va_D A (wX cI cZ ad z1) → va_S A H0 H1 locs1 → W p l e Rm s m args below meth c H1 locs1 0 0 Q (F0 m (pc + 1) ls rest)) : W p l e Rm s m args below meth c H locs 0 0 Q (F0 m pc ls (.int v :: .int i :: .ref (ad 34) :: rest)) := by
  subst es
  exact va_iast (D := (dC, dI)) hx hb hK hP hD hS 34 0 rfl rfl hi hdg (fun H1 locs1 a b d => kk H1 locs1 (a) (b) d)
theorem xg_35_memory (hx : p.tables.exec = Jvm.exec) (hb : c.code = cc) (hts : ∀ w ∈ Ts, w.before args s = true) (hin : ∀ w ∈ u_ws R_PlainRun F_PlainRun 5, w ∈ Ts) (hown : s.vm.findClass own = some m.cls) (hK : va_K (dC, dI) q_cl [(cI, .int), (cZ, .boolean)] s) (hP : va_P (dC, dI) q_cl (wX cI cZ ad z0) H) (hlink : (Cond.fieldLink own index ref "memory" "[I").before args s = true) (hsame : ∀ x, s.fieldFound? "SlippedStreams$PlainRun" "memory" "[I" = some x → s.fieldFound? ref "memory" "[I" = some x) (hdg : decode cc pc = .ok (.getfield index, 3)) (kk : W p l e Rm s m args below meth c H locs 0 0 Q (F0 m (pc + 3) ls (.ref (ad 37) :: rest))) : W p l e Rm s m args below meth c H locs 0 0 Q (F0 m pc ls (.ref (ad 35) :: rest)) :=
  va_get (D := (dC, dI)) (ci := 8) hx hb hts hin hown hK hP 35 rfl rfl 0 (by decide) hlink hsame rfl hdg kk
theorem xg_35_written (hx : p.tables.exec = Jvm.exec) (hb : c.code = cc) (hts : ∀ w ∈ Ts, w.before args s = true) (hin : ∀ w ∈ u_ws R_PlainRun F_PlainRun 5, w ∈ Ts) (hown : s.vm.findClass own = some m.cls) (hK : va_K (dC, dI) q_cl [(cI, .int), (cZ, .boolean)] s) (hP : va_P (dC, dI) q_cl (wX cI cZ ad z0) H) (hlink : (Cond.fieldLink own index ref "written" "LSlippedStreams$Written;").before args s = true) (hsame : ∀ x, s.fieldFound? "SlippedStreams$PlainRun" "written" "LSlippedStreams$Written;" = some x → s.fieldFound? ref "written" "LSlippedStreams$Written;" = some x) (hdg : decode cc pc = .ok (.getfield index, 3)) (kk : W p l e Rm s m args below meth c H locs 0 0 Q (F0 m (pc + 3) ls (.ref (ad 38) :: rest))) : W p l e Rm s m args below meth c H locs 0 0 Q (F0 m pc ls (.ref (ad 35) :: rest)) :=
  va_get (D := (dC, dI)) (ci := 8) hx hb hts hin hown hK hP 35 rfl rfl 1 (by decide) hlink hsame rfl hdg kk
theorem xg_35_program (hx : p.tables.exec = Jvm.exec) (hb : c.code = cc) (hts : ∀ w ∈ Ts, w.before args s = true) (hin : ∀ w ∈ u_ws R_PlainRun F_PlainRun 5, w ∈ Ts) (hown : s.vm.findClass own = some m.cls) (hK : va_K (dC, dI) q_cl [(cI, .int), (cZ, .boolean)] s) (hP : va_P (dC, dI) q_cl (wX cI cZ ad z0) H) (hlink : (Cond.fieldLink own index ref "program" "LSlippedStreams$Program;").before args s = true) (hsame : ∀ x, s.fieldFound? "SlippedStreams$Run" "program" "LSlippedStreams$Program;" = some x → s.fieldFound? ref "program" "LSlippedStreams$Program;" = some x) (hdg : decode cc pc = .ok (.getfield index, 3)) (kk : W p l e Rm s m args below meth c H locs 0 0 Q (F0 m (pc + 3) ls (.ref (ad 1) :: rest))) : W p l e Rm s m args below meth c H locs 0 0 Q (F0 m pc ls (.ref (ad 35) :: rest)) :=
  va_get (D := (dC, dI)) (ci := 8) hx hb hts hin hown hK hP 35 rfl rfl 2 (by decide) hlink hsame rfl hdg kk
theorem xg_35_registers (hx : p.tables.exec = Jvm.exec) (hb : c.code = cc) (hts : ∀ w ∈ Ts, w.before args s = true) (hin : ∀ w ∈ u_ws R_PlainRun F_PlainRun 5, w ∈ Ts) (hown : s.vm.findClass own = some m.cls) (hK : va_K (dC, dI) q_cl [(cI, .int), (cZ, .boolean)] s) (hP : va_P (dC, dI) q_cl (wX cI cZ ad z0) H) (hlink : (Cond.fieldLink own index ref "registers" "[I").before args s = true) (hsame : ∀ x, s.fieldFound? "SlippedStreams$Run" "registers" "[I" = some x → s.fieldFound? ref "registers" "[I" = some x) (hdg : decode cc pc = .ok (.getfield index, 3)) (kk : W p l e Rm s m args below meth c H locs 0 0 Q (F0 m (pc + 3) ls (.ref (ad 36) :: rest))) : W p l e Rm s m args below meth c H locs 0 0 Q (F0 m pc ls (.ref (ad 35) :: rest)) :=
  va_get (D := (dC, dI)) (ci := 8) hx hb hts hin hown hK hP 35 rfl rfl 3 (by decide) hlink hsame rfl hdg kk
theorem xg_35_at (hx : p.tables.exec = Jvm.exec) (hb : c.code = cc) (hts : ∀ w ∈ Ts, w.before args s = true) (hin : ∀ w ∈ u_ws R_PlainRun F_PlainRun 5, w ∈ Ts) (hown : s.vm.findClass own = some m.cls) (hK : va_K (dC, dI) q_cl [(cI, .int), (cZ, .boolean)] s) (hP : va_P (dC, dI) q_cl (wX cI cZ ad z0) H) (hlink : (Cond.fieldLink own index ref "at" "I").before args s = true) (hsame : ∀ x, s.fieldFound? "SlippedStreams$Run" "at" "I" = some x → s.fieldFound? ref "at" "I" = some x) (hdg : decode cc pc = .ok (.getfield index, 3)) (kk : W p l e Rm s m args below meth c H locs 0 0 Q (F0 m (pc + 3) ls (.int (z0.1 21) :: rest))) : W p l e Rm s m args below meth c H locs 0 0 Q (F0 m pc ls (.ref (ad 35) :: rest)) :=
  va_get (D := (dC, dI)) (ci := 8) hx hb hts hin hown hK hP 35 rfl rfl 4 (by decide) hlink hsame rfl hdg kk
theorem xp_35_at (hx : p.tables.exec = Jvm.exec) (hb : c.code = cc) (hts : ∀ w ∈ Ts, w.before args s = true) (hin : ∀ w ∈ u_ws R_PlainRun F_PlainRun 5, w ∈ Ts) (hown : s.vm.findClass own = some m.cls) (hK : va_K (dC, dI) q_cl [(cI, .int), (cZ, .boolean)] s) (hP : va_P (dC, dI) q_cl (wX cI cZ ad z0) H) (hD : va_D A (wX cI cZ ad z0)) (hS : va_S A H0 H locs) (hlink : (Cond.fieldLink own index ref "at" "I").before args s = true) (hsame : ∀ x, s.fieldFound? "SlippedStreams$Run" "at" "I" = some x → s.fieldFound? ref "at" "I" = some x) (hdg : decode cc pc = .ok (.putfield index, 3)) (es : z1 = stI z0 21 v) (kk : ∀ (H1 : Heap) (locs1 : List Loc), va_P (dC, dI) q_cl (wX cI cZ ad z1) H1 → va_D A (wX cI cZ ad z1) → va_S A H0 H1 locs1 → W p l e Rm s m args below meth c H1 locs1 0 0 Q (F0 m (pc + 3) ls rest)) : W p l e Rm s m args below meth c H locs 0 0 Q (F0 m pc ls (.int v :: .ref (ad 35) :: rest)) := by
  subst es
  exact va_put (D := (dC, dI)) (ci := 8) (ty := .int) hx hb hts hin t_PlainRun t_PlainRun_ok n_PlainRun hown hK hP hD hS 35 rfl rfl 4 (by decide) hlink hsame rfl (by decide +kernel) rfl rfl (Nat.le_of_ble_eq_true rfl) hdg (fun H1 locs1 a b d => kk H1 locs1 a b d)
theorem xl_23 (hx : p.tables.exec = Jvm.exec) (hb : c.code = cc) (hK : va_K (dC, dI) q_cl [(cI, .int), (cZ, .boolean)] s) (hP : va_P (dC, dI) q_cl (wX cI cZ ad z0) H) (hi : vp_in i 8) (hdg : decode cc pc = .ok (.iaload, 1)) (kk : W p l e Rm s m args below meth c H locs 0 0 Q (F0 m (pc + 1) ls (.int (z0.2 23 i.toNatClampNeg) :: rest))) : W p l e Rm s m args below meth c H locs 0 0 Q (F0 m pc ls (.int i :: .ref (ad 36) :: rest)) :=
  va_iald (D := (dC, dI)) hx hb hK hP 36 0 rfl rfl hi hdg kk
theorem xs_23 (hx : p.tables.exec = Jvm.exec) (hb : c.code = cc) (hK : va_K (dC, dI) q_cl [(cI, .int), (cZ, .boolean)] s) (hP : va_P (dC, dI) q_cl (wX cI cZ ad z0) H) (hD : va_D A (wX cI cZ ad z0)) (hS : va_S A H0 H locs) (hi : vp_in i 8) (hdg : decode cc pc = .ok (.iastore, 1)) (es : z1 = stA z0 23 (upd (z0.2 23) i.toNatClampNeg v)) (kk : ∀ (H1 : Heap) (locs1 : List Loc), va_P (dC, dI) q_cl (wX cI cZ ad z1) H1 → va_D A (wX cI cZ ad z1) → va_S A H0 H1 locs1 → W p l e Rm s m args below meth c H1 locs1 0 0 Q (F0 m (pc + 1) ls rest)) : W p l e Rm s m args below meth c H locs 0 0 Q (F0 m pc ls (.int v :: .int i :: .ref (ad 36) :: rest)) := by
  subst es
  exact va_iast (D := (dC, dI)) hx hb hK hP hD hS 36 0 rfl rfl hi hdg (fun H1 locs1 a b d => kk H1 locs1 (a) (b) d)
theorem xl_24 (hx : p.tables.exec = Jvm.exec) (hb : c.code = cc) (hK : va_K (dC, dI) q_cl [(cI, .int), (cZ, .boolean)] s) (hP : va_P (dC, dI) q_cl (wX cI cZ ad z0) H) (hi : vp_in i 32) (hdg : decode cc pc = .ok (.iaload, 1)) (kk : W p l e Rm s m args below meth c H locs 0 0 Q (F0 m (pc + 1) ls (.int (z0.2 24 i.toNatClampNeg) :: rest))) : W p l e Rm s m args below meth c H locs 0 0 Q (F0 m pc ls (.int i :: .ref (ad 37) :: rest)) :=
  va_iald (D := (dC, dI)) hx hb hK hP 37 0 rfl rfl hi hdg kk
theorem xs_24 (hx : p.tables.exec = Jvm.exec) (hb : c.code = cc) (hK : va_K (dC, dI) q_cl [(cI, .int), (cZ, .boolean)] s) (hP : va_P (dC, dI) q_cl (wX cI cZ ad z0) H) (hD : va_D A (wX cI cZ ad z0)) (hS : va_S A H0 H locs) (hi : vp_in i 32) (hdg : decode cc pc = .ok (.iastore, 1)) (es : z1 = stA z0 24 (upd (z0.2 24) i.toNatClampNeg v)) (kk : ∀ (H1 : Heap) (locs1 : List Loc), va_P (dC, dI) q_cl (wX cI cZ ad z1) H1 → va_D A (wX cI cZ ad z1) → va_S A H0 H1 locs1 → W p l e Rm s m args below meth c H1 locs1 0 0 Q (F0 m (pc + 1) ls rest)) : W p l e Rm s m args below meth c H locs 0 0 Q (F0 m pc ls (.int v :: .int i :: .ref (ad 37) :: rest)) := by
  subst es
  exact va_iast (D := (dC, dI)) hx hb hK hP hD hS 37 0 rfl rfl hi hdg (fun H1 locs1 a b d => kk H1 locs1 (a) (b) d)
theorem xg_38_kept (hx : p.tables.exec = Jvm.exec) (hb : c.code = cc) (hts : ∀ w ∈ Ts, w.before args s = true) (hin : ∀ w ∈ u_ws R_Written F_Written 2, w ∈ Ts) (hown : s.vm.findClass own = some m.cls) (hK : va_K (dC, dI) q_cl [(cI, .int), (cZ, .boolean)] s) (hP : va_P (dC, dI) q_cl (wX cI cZ ad z0) H) (hlink : (Cond.fieldLink own index ref "kept" "[I").before args s = true) (hsame : ∀ x, s.fieldFound? "SlippedStreams$Written" "kept" "[I" = some x → s.fieldFound? ref "kept" "[I" = some x) (hdg : decode cc pc = .ok (.getfield index, 3)) (kk : W p l e Rm s m args below meth c H locs 0 0 Q (F0 m (pc + 3) ls (.ref (ad 39) :: rest))) : W p l e Rm s m args below meth c H locs 0 0 Q (F0 m pc ls (.ref (ad 38) :: rest)) :=
  va_get (D := (dC, dI)) (ci := 7) hx hb hts hin hown hK hP 38 rfl rfl 0 (by decide) hlink hsame rfl hdg kk
theorem xg_38_count (hx : p.tables.exec = Jvm.exec) (hb : c.code = cc) (hts : ∀ w ∈ Ts, w.before args s = true) (hin : ∀ w ∈ u_ws R_Written F_Written 2, w ∈ Ts) (hown : s.vm.findClass own = some m.cls) (hK : va_K (dC, dI) q_cl [(cI, .int), (cZ, .boolean)] s) (hP : va_P (dC, dI) q_cl (wX cI cZ ad z0) H) (hlink : (Cond.fieldLink own index ref "count" "I").before args s = true) (hsame : ∀ x, s.fieldFound? "SlippedStreams$Written" "count" "I" = some x → s.fieldFound? ref "count" "I" = some x) (hdg : decode cc pc = .ok (.getfield index, 3)) (kk : W p l e Rm s m args below meth c H locs 0 0 Q (F0 m (pc + 3) ls (.int (z0.1 22) :: rest))) : W p l e Rm s m args below meth c H locs 0 0 Q (F0 m pc ls (.ref (ad 38) :: rest)) :=
  va_get (D := (dC, dI)) (ci := 7) hx hb hts hin hown hK hP 38 rfl rfl 1 (by decide) hlink hsame rfl hdg kk
theorem xp_38_count (hx : p.tables.exec = Jvm.exec) (hb : c.code = cc) (hts : ∀ w ∈ Ts, w.before args s = true) (hin : ∀ w ∈ u_ws R_Written F_Written 2, w ∈ Ts) (hown : s.vm.findClass own = some m.cls) (hK : va_K (dC, dI) q_cl [(cI, .int), (cZ, .boolean)] s) (hP : va_P (dC, dI) q_cl (wX cI cZ ad z0) H) (hD : va_D A (wX cI cZ ad z0)) (hS : va_S A H0 H locs) (hlink : (Cond.fieldLink own index ref "count" "I").before args s = true) (hsame : ∀ x, s.fieldFound? "SlippedStreams$Written" "count" "I" = some x → s.fieldFound? ref "count" "I" = some x) (hdg : decode cc pc = .ok (.putfield index, 3)) (es : z1 = stI z0 22 v) (kk : ∀ (H1 : Heap) (locs1 : List Loc), va_P (dC, dI) q_cl (wX cI cZ ad z1) H1 → va_D A (wX cI cZ ad z1) → va_S A H0 H1 locs1 → W p l e Rm s m args below meth c H1 locs1 0 0 Q (F0 m (pc + 3) ls rest)) : W p l e Rm s m args below meth c H locs 0 0 Q (F0 m pc ls (.int v :: .ref (ad 38) :: rest)) := by
  subst es
  exact va_put (D := (dC, dI)) (ci := 7) (ty := .int) hx hb hts hin t_Written t_Written_ok n_Written hown hK hP hD hS 38 rfl rfl 1 (by decide) hlink hsame rfl (by decide +kernel) rfl rfl (Nat.le_of_ble_eq_true rfl) hdg (fun H1 locs1 a b d => kk H1 locs1 a b d)
theorem xl_25 (hx : p.tables.exec = Jvm.exec) (hb : c.code = cc) (hK : va_K (dC, dI) q_cl [(cI, .int), (cZ, .boolean)] s) (hP : va_P (dC, dI) q_cl (wX cI cZ ad z0) H) (hi : vp_in i 64) (hdg : decode cc pc = .ok (.iaload, 1)) (kk : W p l e Rm s m args below meth c H locs 0 0 Q (F0 m (pc + 1) ls (.int (z0.2 25 i.toNatClampNeg) :: rest))) : W p l e Rm s m args below meth c H locs 0 0 Q (F0 m pc ls (.int i :: .ref (ad 39) :: rest)) :=
  va_iald (D := (dC, dI)) hx hb hK hP 39 0 rfl rfl hi hdg kk
theorem xs_25 (hx : p.tables.exec = Jvm.exec) (hb : c.code = cc) (hK : va_K (dC, dI) q_cl [(cI, .int), (cZ, .boolean)] s) (hP : va_P (dC, dI) q_cl (wX cI cZ ad z0) H) (hD : va_D A (wX cI cZ ad z0)) (hS : va_S A H0 H locs) (hi : vp_in i 64) (hdg : decode cc pc = .ok (.iastore, 1)) (es : z1 = stA z0 25 (upd (z0.2 25) i.toNatClampNeg v)) (kk : ∀ (H1 : Heap) (locs1 : List Loc), va_P (dC, dI) q_cl (wX cI cZ ad z1) H1 → va_D A (wX cI cZ ad z1) → va_S A H0 H1 locs1 → W p l e Rm s m args below meth c H1 locs1 0 0 Q (F0 m (pc + 1) ls rest)) : W p l e Rm s m args below meth c H locs 0 0 Q (F0 m pc ls (.int v :: .int i :: .ref (ad 39) :: rest)) := by
  subst es
  exact va_iast (D := (dC, dI)) hx hb hK hP hD hS 39 0 rfl rfl hi hdg (fun H1 locs1 a b d => kk H1 locs1 (a) (b) d)
end ROWSx
end
section
section ROWSm
variable {p : Program} {l : Launch} {e : Env} {Rm : Room} {s : State} {m : MethodId} {args : Array Value} {below : List Frame} {meth : Method} {c : Code} {H H0 : Heap} {locs : List Loc} {Q : State → Prop}
variable {cc : ByteArray} {pc : Nat} {ls : Array Slot} {rest : List Value} {A : Nat → Prop} {dC : Nat → ClassId} {dI : Nat → Nat → Nat} {cI cZ : ClassId} {ad : Nat → Nat} {z0 z1 : ST} {v i : Int32} {own ref : String} {index : Nat} {Ts : List Cond}
theorem mg_0_count (hx : p.tables.exec = Jvm.exec) (hb : c.code = cc) (hts : ∀ w ∈ Ts, w.before args s = true) (hin : ∀ w ∈ u_ws R_SlippedStreamsModel F_SlippedStreamsModel 27, w ∈ Ts) (hown : s.vm.findClass own = some m.cls) (hK : va_K (dC, dI) q_cl [(cI, .int), (cZ, .boolean)] s) (hP : va_P (dC, dI) q_cl (wM cI cZ ad z0) H) (hlink : (Cond.fieldLink own index ref "count" "I").before args s = true) (hsame : ∀ x, s.fieldFound? "SlippedStreamsModel" "count" "I" = some x → s.fieldFound? ref "count" "I" = some x) (hdg : decode cc pc = .ok (.getfield index, 3)) (kk : W p l e Rm s m args below meth c H locs 0 0 Q (F0 m (pc + 3) ls (.int (z0.1 0) :: rest))) : W p l e Rm s m args below meth c H locs 0 0 Q (F0 m pc ls (.ref (ad 0) :: rest)) :=
  va_get (D := (dC, dI)) (ci := 9) hx hb hts hin hown hK hP 0 rfl rfl 0 (by decide) hlink hsame rfl hdg kk
theorem mp_0_count (hx : p.tables.exec = Jvm.exec) (hb : c.code = cc) (hts : ∀ w ∈ Ts, w.before args s = true) (hin : ∀ w ∈ u_ws R_SlippedStreamsModel F_SlippedStreamsModel 27, w ∈ Ts) (hown : s.vm.findClass own = some m.cls) (hK : va_K (dC, dI) q_cl [(cI, .int), (cZ, .boolean)] s) (hP : va_P (dC, dI) q_cl (wM cI cZ ad z0) H) (hD : va_D A (wM cI cZ ad z0)) (hS : va_S A H0 H locs) (hlink : (Cond.fieldLink own index ref "count" "I").before args s = true) (hsame : ∀ x, s.fieldFound? "SlippedStreamsModel" "count" "I" = some x → s.fieldFound? ref "count" "I" = some x) (hdg : decode cc pc = .ok (.putfield index, 3)) (es : z1 = stI z0 0 v) (kk : ∀ (H1 : Heap) (locs1 : List Loc), va_P (dC, dI) q_cl (wM cI cZ ad z1) H1 → va_D A (wM cI cZ ad z1) → va_S A H0 H1 locs1 → W p l e Rm s m args below meth c H1 locs1 0 0 Q (F0 m (pc + 3) ls rest)) : W p l e Rm s m args below meth c H locs 0 0 Q (F0 m pc ls (.int v :: .ref (ad 0) :: rest)) := by
  subst es
  exact va_put (D := (dC, dI)) (ci := 9) (ty := .int) hx hb hts hin t_SlippedStreamsModel t_SlippedStreamsModel_ok n_SlippedStreamsModel hown hK hP hD hS 0 rfl rfl 0 (by decide) hlink hsame rfl (by decide +kernel) rfl rfl (Nat.le_of_ble_eq_true rfl) hdg (fun H1 locs1 a b d => kk H1 locs1 a b d)
theorem mg_0_kinds (hx : p.tables.exec = Jvm.exec) (hb : c.code = cc) (hts : ∀ w ∈ Ts, w.before args s = true) (hin : ∀ w ∈ u_ws R_SlippedStreamsModel F_SlippedStreamsModel 27, w ∈ Ts) (hown : s.vm.findClass own = some m.cls) (hK : va_K (dC, dI) q_cl [(cI, .int), (cZ, .boolean)] s) (hP : va_P (dC, dI) q_cl (wM cI cZ ad z0) H) (hlink : (Cond.fieldLink own index ref "kinds" "[I").before args s = true) (hsame : ∀ x, s.fieldFound? "SlippedStreamsModel" "kinds" "[I" = some x → s.fieldFound? ref "kinds" "[I" = some x) (hdg : decode cc pc = .ok (.getfield index, 3)) (kk : W p l e Rm s m args below meth c H locs 0 0 Q (F0 m (pc + 3) ls (.ref (ad 1) :: rest))) : W p l e Rm s m args below meth c H locs 0 0 Q (F0 m pc ls (.ref (ad 0) :: rest)) :=
  va_get (D := (dC, dI)) (ci := 9) hx hb hts hin hown hK hP 0 rfl rfl 1 (by decide) hlink hsame rfl hdg kk
theorem mg_0_as (hx : p.tables.exec = Jvm.exec) (hb : c.code = cc) (hts : ∀ w ∈ Ts, w.before args s = true) (hin : ∀ w ∈ u_ws R_SlippedStreamsModel F_SlippedStreamsModel 27, w ∈ Ts) (hown : s.vm.findClass own = some m.cls) (hK : va_K (dC, dI) q_cl [(cI, .int), (cZ, .boolean)] s) (hP : va_P (dC, dI) q_cl (wM cI cZ ad z0) H) (hlink : (Cond.fieldLink own index ref "as" "[I").before args s = true) (hsame : ∀ x, s.fieldFound? "SlippedStreamsModel" "as" "[I" = some x → s.fieldFound? ref "as" "[I" = some x) (hdg : decode cc pc = .ok (.getfield index, 3)) (kk : W p l e Rm s m args below meth c H locs 0 0 Q (F0 m (pc + 3) ls (.ref (ad 2) :: rest))) : W p l e Rm s m args below meth c H locs 0 0 Q (F0 m pc ls (.ref (ad 0) :: rest)) :=
  va_get (D := (dC, dI)) (ci := 9) hx hb hts hin hown hK hP 0 rfl rfl 2 (by decide) hlink hsame rfl hdg kk
theorem mg_0_bs (hx : p.tables.exec = Jvm.exec) (hb : c.code = cc) (hts : ∀ w ∈ Ts, w.before args s = true) (hin : ∀ w ∈ u_ws R_SlippedStreamsModel F_SlippedStreamsModel 27, w ∈ Ts) (hown : s.vm.findClass own = some m.cls) (hK : va_K (dC, dI) q_cl [(cI, .int), (cZ, .boolean)] s) (hP : va_P (dC, dI) q_cl (wM cI cZ ad z0) H) (hlink : (Cond.fieldLink own index ref "bs" "[I").before args s = true) (hsame : ∀ x, s.fieldFound? "SlippedStreamsModel" "bs" "[I" = some x → s.fieldFound? ref "bs" "[I" = some x) (hdg : decode cc pc = .ok (.getfield index, 3)) (kk : W p l e Rm s m args below meth c H locs 0 0 Q (F0 m (pc + 3) ls (.ref (ad 3) :: rest))) : W p l e Rm s m args below meth c H locs 0 0 Q (F0 m pc ls (.ref (ad 0) :: rest)) :=
  va_get (D := (dC, dI)) (ci := 9) hx hb hts hin hown hK hP 0 rfl rfl 3 (by decide) hlink hsame rfl hdg kk
theorem mg_0_cs (hx : p.tables.exec = Jvm.exec) (hb : c.code = cc) (hts : ∀ w ∈ Ts, w.before args s = true) (hin : ∀ w ∈ u_ws R_SlippedStreamsModel F_SlippedStreamsModel 27, w ∈ Ts) (hown : s.vm.findClass own = some m.cls) (hK : va_K (dC, dI) q_cl [(cI, .int), (cZ, .boolean)] s) (hP : va_P (dC, dI) q_cl (wM cI cZ ad z0) H) (hlink : (Cond.fieldLink own index ref "cs" "[I").before args s = true) (hsame : ∀ x, s.fieldFound? "SlippedStreamsModel" "cs" "[I" = some x → s.fieldFound? ref "cs" "[I" = some x) (hdg : decode cc pc = .ok (.getfield index, 3)) (kk : W p l e Rm s m args below meth c H locs 0 0 Q (F0 m (pc + 3) ls (.ref (ad 4) :: rest))) : W p l e Rm s m args below meth c H locs 0 0 Q (F0 m pc ls (.ref (ad 0) :: rest)) :=
  va_get (D := (dC, dI)) (ci := 9) hx hb hts hin hown hK hP 0 rfl rfl 4 (by decide) hlink hsame rfl hdg kk
theorem mg_0_first (hx : p.tables.exec = Jvm.exec) (hb : c.code = cc) (hts : ∀ w ∈ Ts, w.before args s = true) (hin : ∀ w ∈ u_ws R_SlippedStreamsModel F_SlippedStreamsModel 27, w ∈ Ts) (hown : s.vm.findClass own = some m.cls) (hK : va_K (dC, dI) q_cl [(cI, .int), (cZ, .boolean)] s) (hP : va_P (dC, dI) q_cl (wM cI cZ ad z0) H) (hlink : (Cond.fieldLink own index ref "first" "I").before args s = true) (hsame : ∀ x, s.fieldFound? "SlippedStreamsModel" "first" "I" = some x → s.fieldFound? ref "first" "I" = some x) (hdg : decode cc pc = .ok (.getfield index, 3)) (kk : W p l e Rm s m args below meth c H locs 0 0 Q (F0 m (pc + 3) ls (.int (z0.1 1) :: rest))) : W p l e Rm s m args below meth c H locs 0 0 Q (F0 m pc ls (.ref (ad 0) :: rest)) :=
  va_get (D := (dC, dI)) (ci := 9) hx hb hts hin hown hK hP 0 rfl rfl 5 (by decide) hlink hsame rfl hdg kk
theorem mp_0_first (hx : p.tables.exec = Jvm.exec) (hb : c.code = cc) (hts : ∀ w ∈ Ts, w.before args s = true) (hin : ∀ w ∈ u_ws R_SlippedStreamsModel F_SlippedStreamsModel 27, w ∈ Ts) (hown : s.vm.findClass own = some m.cls) (hK : va_K (dC, dI) q_cl [(cI, .int), (cZ, .boolean)] s) (hP : va_P (dC, dI) q_cl (wM cI cZ ad z0) H) (hD : va_D A (wM cI cZ ad z0)) (hS : va_S A H0 H locs) (hlink : (Cond.fieldLink own index ref "first" "I").before args s = true) (hsame : ∀ x, s.fieldFound? "SlippedStreamsModel" "first" "I" = some x → s.fieldFound? ref "first" "I" = some x) (hdg : decode cc pc = .ok (.putfield index, 3)) (es : z1 = stI z0 1 v) (kk : ∀ (H1 : Heap) (locs1 : List Loc), va_P (dC, dI) q_cl (wM cI cZ ad z1) H1 → va_D A (wM cI cZ ad z1) → va_S A H0 H1 locs1 → W p l e Rm s m args below meth c H1 locs1 0 0 Q (F0 m (pc + 3) ls rest)) : W p l e Rm s m args below meth c H locs 0 0 Q (F0 m pc ls (.int v :: .ref (ad 0) :: rest)) := by
  subst es
  exact va_put (D := (dC, dI)) (ci := 9) (ty := .int) hx hb hts hin t_SlippedStreamsModel t_SlippedStreamsModel_ok n_SlippedStreamsModel hown hK hP hD hS 0 rfl rfl 5 (by decide) hlink hsame rfl (by decide +kernel) rfl rfl (Nat.le_of_ble_eq_true rfl) hdg (fun H1 locs1 a b d => kk H1 locs1 a b d)
theorem mg_0_step (hx : p.tables.exec = Jvm.exec) (hb : c.code = cc) (hts : ∀ w ∈ Ts, w.before args s = true) (hin : ∀ w ∈ u_ws R_SlippedStreamsModel F_SlippedStreamsModel 27, w ∈ Ts) (hown : s.vm.findClass own = some m.cls) (hK : va_K (dC, dI) q_cl [(cI, .int), (cZ, .boolean)] s) (hP : va_P (dC, dI) q_cl (wM cI cZ ad z0) H) (hlink : (Cond.fieldLink own index ref "step" "I").before args s = true) (hsame : ∀ x, s.fieldFound? "SlippedStreamsModel" "step" "I" = some x → s.fieldFound? ref "step" "I" = some x) (hdg : decode cc pc = .ok (.getfield index, 3)) (kk : W p l e Rm s m args below meth c H locs 0 0 Q (F0 m (pc + 3) ls (.int (z0.1 2) :: rest))) : W p l e Rm s m args below meth c H locs 0 0 Q (F0 m pc ls (.ref (ad 0) :: rest)) :=
  va_get (D := (dC, dI)) (ci := 9) hx hb hts hin hown hK hP 0 rfl rfl 6 (by decide) hlink hsame rfl hdg kk
theorem mp_0_step (hx : p.tables.exec = Jvm.exec) (hb : c.code = cc) (hts : ∀ w ∈ Ts, w.before args s = true) (hin : ∀ w ∈ u_ws R_SlippedStreamsModel F_SlippedStreamsModel 27, w ∈ Ts) (hown : s.vm.findClass own = some m.cls) (hK : va_K (dC, dI) q_cl [(cI, .int), (cZ, .boolean)] s) (hP : va_P (dC, dI) q_cl (wM cI cZ ad z0) H) (hD : va_D A (wM cI cZ ad z0)) (hS : va_S A H0 H locs) (hlink : (Cond.fieldLink own index ref "step" "I").before args s = true) (hsame : ∀ x, s.fieldFound? "SlippedStreamsModel" "step" "I" = some x → s.fieldFound? ref "step" "I" = some x) (hdg : decode cc pc = .ok (.putfield index, 3)) (es : z1 = stI z0 2 v) (kk : ∀ (H1 : Heap) (locs1 : List Loc), va_P (dC, dI) q_cl (wM cI cZ ad z1) H1 → va_D A (wM cI cZ ad z1) → va_S A H0 H1 locs1 → W p l e Rm s m args below meth c H1 locs1 0 0 Q (F0 m (pc + 3) ls rest)) : W p l e Rm s m args below meth c H locs 0 0 Q (F0 m pc ls (.int v :: .ref (ad 0) :: rest)) := by
  subst es
  exact va_put (D := (dC, dI)) (ci := 9) (ty := .int) hx hb hts hin t_SlippedStreamsModel t_SlippedStreamsModel_ok n_SlippedStreamsModel hown hK hP hD hS 0 rfl rfl 6 (by decide) hlink hsame rfl (by decide +kernel) rfl rfl (Nat.le_of_ble_eq_true rfl) hdg (fun H1 locs1 a b d => kk H1 locs1 a b d)
theorem mg_0_isAddress (hx : p.tables.exec = Jvm.exec) (hb : c.code = cc) (hts : ∀ w ∈ Ts, w.before args s = true) (hin : ∀ w ∈ u_ws R_SlippedStreamsModel F_SlippedStreamsModel 27, w ∈ Ts) (hown : s.vm.findClass own = some m.cls) (hK : va_K (dC, dI) q_cl [(cI, .int), (cZ, .boolean)] s) (hP : va_P (dC, dI) q_cl (wM cI cZ ad z0) H) (hlink : (Cond.fieldLink own index ref "isAddress" "[Z").before args s = true) (hsame : ∀ x, s.fieldFound? "SlippedStreamsModel" "isAddress" "[Z" = some x → s.fieldFound? ref "isAddress" "[Z" = some x) (hdg : decode cc pc = .ok (.getfield index, 3)) (kk : W p l e Rm s m args below meth c H locs 0 0 Q (F0 m (pc + 3) ls (.ref (ad 5) :: rest))) : W p l e Rm s m args below meth c H locs 0 0 Q (F0 m pc ls (.ref (ad 0) :: rest)) :=
  va_get (D := (dC, dI)) (ci := 9) hx hb hts hin hown hK hP 0 rfl rfl 7 (by decide) hlink hsame rfl hdg kk
theorem mg_0_registers (hx : p.tables.exec = Jvm.exec) (hb : c.code = cc) (hts : ∀ w ∈ Ts, w.before args s = true) (hin : ∀ w ∈ u_ws R_SlippedStreamsModel F_SlippedStreamsModel 27, w ∈ Ts) (hown : s.vm.findClass own = some m.cls) (hK : va_K (dC, dI) q_cl [(cI, .int), (cZ, .boolean)] s) (hP : va_P (dC, dI) q_cl (wM cI cZ ad z0) H) (hlink : (Cond.fieldLink own index ref "registers" "[I").before args s = true) (hsame : ∀ x, s.fieldFound? "SlippedStreamsModel" "registers" "[I" = some x → s.fieldFound? ref "registers" "[I" = some x) (hdg : decode cc pc = .ok (.getfield index, 3)) (kk : W p l e Rm s m args below meth c H locs 0 0 Q (F0 m (pc + 3) ls (.ref (ad 6) :: rest))) : W p l e Rm s m args below meth c H locs 0 0 Q (F0 m pc ls (.ref (ad 0) :: rest)) :=
  va_get (D := (dC, dI)) (ci := 9) hx hb hts hin hown hK hP 0 rfl rfl 8 (by decide) hlink hsame rfl hdg kk
theorem mg_0_places (hx : p.tables.exec = Jvm.exec) (hb : c.code = cc) (hts : ∀ w ∈ Ts, w.before args s = true) (hin : ∀ w ∈ u_ws R_SlippedStreamsModel F_SlippedStreamsModel 27, w ∈ Ts) (hown : s.vm.findClass own = some m.cls) (hK : va_K (dC, dI) q_cl [(cI, .int), (cZ, .boolean)] s) (hP : va_P (dC, dI) q_cl (wM cI cZ ad z0) H) (hlink : (Cond.fieldLink own index ref "places" "[I").before args s = true) (hsame : ∀ x, s.fieldFound? "SlippedStreamsModel" "places" "[I" = some x → s.fieldFound? ref "places" "[I" = some x) (hdg : decode cc pc = .ok (.getfield index, 3)) (kk : W p l e Rm s m args below meth c H locs 0 0 Q (F0 m (pc + 3) ls (.ref (ad 7) :: rest))) : W p l e Rm s m args below meth c H locs 0 0 Q (F0 m pc ls (.ref (ad 0) :: rest)) :=
  va_get (D := (dC, dI)) (ci := 9) hx hb hts hin hown hK hP 0 rfl rfl 9 (by decide) hlink hsame rfl hdg kk
theorem mg_0_behind (hx : p.tables.exec = Jvm.exec) (hb : c.code = cc) (hts : ∀ w ∈ Ts, w.before args s = true) (hin : ∀ w ∈ u_ws R_SlippedStreamsModel F_SlippedStreamsModel 27, w ∈ Ts) (hown : s.vm.findClass own = some m.cls) (hK : va_K (dC, dI) q_cl [(cI, .int), (cZ, .boolean)] s) (hP : va_P (dC, dI) q_cl (wM cI cZ ad z0) H) (hlink : (Cond.fieldLink own index ref "behind" "[I").before args s = true) (hsame : ∀ x, s.fieldFound? "SlippedStreamsModel" "behind" "[I" = some x → s.fieldFound? ref "behind" "[I" = some x) (hdg : decode cc pc = .ok (.getfield index, 3)) (kk : W p l e Rm s m args below meth c H locs 0 0 Q (F0 m (pc + 3) ls (.ref (ad 8) :: rest))) : W p l e Rm s m args below meth c H locs 0 0 Q (F0 m pc ls (.ref (ad 0) :: rest)) :=
  va_get (D := (dC, dI)) (ci := 9) hx hb hts hin hown hK hP 0 rfl rfl 10 (by decide) hlink hsame rfl hdg kk
theorem mg_0_sent (hx : p.tables.exec = Jvm.exec) (hb : c.code = cc) (hts : ∀ w ∈ Ts, w.before args s = true) (hin : ∀ w ∈ u_ws R_SlippedStreamsModel F_SlippedStreamsModel 27, w ∈ Ts) (hown : s.vm.findClass own = some m.cls) (hK : va_K (dC, dI) q_cl [(cI, .int), (cZ, .boolean)] s) (hP : va_P (dC, dI) q_cl (wM cI cZ ad z0) H) (hlink : (Cond.fieldLink own index ref "sent" "Z").before args s = true) (hsame : ∀ x, s.fieldFound? "SlippedStreamsModel" "sent" "Z" = some x → s.fieldFound? ref "sent" "Z" = some x) (hdg : decode cc pc = .ok (.getfield index, 3)) (kk : W p l e Rm s m args below meth c H locs 0 0 Q (F0 m (pc + 3) ls (.int (z0.1 3) :: rest))) : W p l e Rm s m args below meth c H locs 0 0 Q (F0 m pc ls (.ref (ad 0) :: rest)) :=
  va_get (D := (dC, dI)) (ci := 9) hx hb hts hin hown hK hP 0 rfl rfl 11 (by decide) hlink hsame rfl hdg kk
theorem mp_0_sent (hx : p.tables.exec = Jvm.exec) (hb : c.code = cc) (hts : ∀ w ∈ Ts, w.before args s = true) (hin : ∀ w ∈ u_ws R_SlippedStreamsModel F_SlippedStreamsModel 27, w ∈ Ts) (hown : s.vm.findClass own = some m.cls) (hK : va_K (dC, dI) q_cl [(cI, .int), (cZ, .boolean)] s) (hP : va_P (dC, dI) q_cl (wM cI cZ ad z0) H) (hD : va_D A (wM cI cZ ad z0)) (hS : va_S A H0 H locs) (hlink : (Cond.fieldLink own index ref "sent" "Z").before args s = true) (hsame : ∀ x, s.fieldFound? "SlippedStreamsModel" "sent" "Z" = some x → s.fieldFound? ref "sent" "Z" = some x) (hv : v = 0 ∨ v = 1) (hdg : decode cc pc = .ok (.putfield index, 3)) (es : z1 = stI z0 3 v) (kk : ∀ (H1 : Heap) (locs1 : List Loc), va_P (dC, dI) q_cl (wM cI cZ ad z1) H1 → va_D A (wM cI cZ ad z1) → va_S A H0 H1 locs1 → W p l e Rm s m args below meth c H1 locs1 0 0 Q (F0 m (pc + 3) ls rest)) : W p l e Rm s m args below meth c H locs 0 0 Q (F0 m pc ls (.int v :: .ref (ad 0) :: rest)) := by
  subst es
  exact va_put (D := (dC, dI)) (ci := 9) (ty := .boolean) hx hb hts hin t_SlippedStreamsModel t_SlippedStreamsModel_ok n_SlippedStreamsModel hown hK hP hD hS 0 rfl rfl 11 (by decide) hlink hsame rfl (by decide +kernel) (nB hv) (fB hv) (Nat.le_of_ble_eq_true rfl) hdg (fun H1 locs1 a b d => kk H1 locs1 a b d)
theorem mg_0_memory (hx : p.tables.exec = Jvm.exec) (hb : c.code = cc) (hts : ∀ w ∈ Ts, w.before args s = true) (hin : ∀ w ∈ u_ws R_SlippedStreamsModel F_SlippedStreamsModel 27, w ∈ Ts) (hown : s.vm.findClass own = some m.cls) (hK : va_K (dC, dI) q_cl [(cI, .int), (cZ, .boolean)] s) (hP : va_P (dC, dI) q_cl (wM cI cZ ad z0) H) (hlink : (Cond.fieldLink own index ref "memory" "[I").before args s = true) (hsame : ∀ x, s.fieldFound? "SlippedStreamsModel" "memory" "[I" = some x → s.fieldFound? ref "memory" "[I" = some x) (hdg : decode cc pc = .ok (.getfield index, 3)) (kk : W p l e Rm s m args below meth c H locs 0 0 Q (F0 m (pc + 3) ls (.ref (ad 9) :: rest))) : W p l e Rm s m args below meth c H locs 0 0 Q (F0 m pc ls (.ref (ad 0) :: rest)) :=
  va_get (D := (dC, dI)) (ci := 9) hx hb hts hin hown hK hP 0 rfl rfl 12 (by decide) hlink hsame rfl hdg kk
theorem mg_0_lost (hx : p.tables.exec = Jvm.exec) (hb : c.code = cc) (hts : ∀ w ∈ Ts, w.before args s = true) (hin : ∀ w ∈ u_ws R_SlippedStreamsModel F_SlippedStreamsModel 27, w ∈ Ts) (hown : s.vm.findClass own = some m.cls) (hK : va_K (dC, dI) q_cl [(cI, .int), (cZ, .boolean)] s) (hP : va_P (dC, dI) q_cl (wM cI cZ ad z0) H) (hlink : (Cond.fieldLink own index ref "lost" "I").before args s = true) (hsame : ∀ x, s.fieldFound? "SlippedStreamsModel" "lost" "I" = some x → s.fieldFound? ref "lost" "I" = some x) (hdg : decode cc pc = .ok (.getfield index, 3)) (kk : W p l e Rm s m args below meth c H locs 0 0 Q (F0 m (pc + 3) ls (.int (z0.1 4) :: rest))) : W p l e Rm s m args below meth c H locs 0 0 Q (F0 m pc ls (.ref (ad 0) :: rest)) :=
  va_get (D := (dC, dI)) (ci := 9) hx hb hts hin hown hK hP 0 rfl rfl 13 (by decide) hlink hsame rfl hdg kk
theorem mp_0_lost (hx : p.tables.exec = Jvm.exec) (hb : c.code = cc) (hts : ∀ w ∈ Ts, w.before args s = true) (hin : ∀ w ∈ u_ws R_SlippedStreamsModel F_SlippedStreamsModel 27, w ∈ Ts) (hown : s.vm.findClass own = some m.cls) (hK : va_K (dC, dI) q_cl [(cI, .int), (cZ, .boolean)] s) (hP : va_P (dC, dI) q_cl (wM cI cZ ad z0) H) (hD : va_D A (wM cI cZ ad z0)) (hS : va_S A H0 H locs) (hlink : (Cond.fieldLink own index ref "lost" "I").before args s = true) (hsame : ∀ x, s.fieldFound? "SlippedStreamsModel" "lost" "I" = some x → s.fieldFound? ref "lost" "I" = some x) (hdg : decode cc pc = .ok (.putfield index, 3)) (es : z1 = stI z0 4 v) (kk : ∀ (H1 : Heap) (locs1 : List Loc), va_P (dC, dI) q_cl (wM cI cZ ad z1) H1 → va_D A (wM cI cZ ad z1) → va_S A H0 H1 locs1 → W p l e Rm s m args below meth c H1 locs1 0 0 Q (F0 m (pc + 3) ls rest)) : W p l e Rm s m args below meth c H locs 0 0 Q (F0 m pc ls (.int v :: .ref (ad 0) :: rest)) := by
  subst es
  exact va_put (D := (dC, dI)) (ci := 9) (ty := .int) hx hb hts hin t_SlippedStreamsModel t_SlippedStreamsModel_ok n_SlippedStreamsModel hown hK hP hD hS 0 rfl rfl 13 (by decide) hlink hsame rfl (by decide +kernel) rfl rfl (Nat.le_of_ble_eq_true rfl) hdg (fun H1 locs1 a b d => kk H1 locs1 a b d)
theorem mg_0_starved (hx : p.tables.exec = Jvm.exec) (hb : c.code = cc) (hts : ∀ w ∈ Ts, w.before args s = true) (hin : ∀ w ∈ u_ws R_SlippedStreamsModel F_SlippedStreamsModel 27, w ∈ Ts) (hown : s.vm.findClass own = some m.cls) (hK : va_K (dC, dI) q_cl [(cI, .int), (cZ, .boolean)] s) (hP : va_P (dC, dI) q_cl (wM cI cZ ad z0) H) (hlink : (Cond.fieldLink own index ref "starved" "Z").before args s = true) (hsame : ∀ x, s.fieldFound? "SlippedStreamsModel" "starved" "Z" = some x → s.fieldFound? ref "starved" "Z" = some x) (hdg : decode cc pc = .ok (.getfield index, 3)) (kk : W p l e Rm s m args below meth c H locs 0 0 Q (F0 m (pc + 3) ls (.int (z0.1 5) :: rest))) : W p l e Rm s m args below meth c H locs 0 0 Q (F0 m pc ls (.ref (ad 0) :: rest)) :=
  va_get (D := (dC, dI)) (ci := 9) hx hb hts hin hown hK hP 0 rfl rfl 14 (by decide) hlink hsame rfl hdg kk
theorem mp_0_starved (hx : p.tables.exec = Jvm.exec) (hb : c.code = cc) (hts : ∀ w ∈ Ts, w.before args s = true) (hin : ∀ w ∈ u_ws R_SlippedStreamsModel F_SlippedStreamsModel 27, w ∈ Ts) (hown : s.vm.findClass own = some m.cls) (hK : va_K (dC, dI) q_cl [(cI, .int), (cZ, .boolean)] s) (hP : va_P (dC, dI) q_cl (wM cI cZ ad z0) H) (hD : va_D A (wM cI cZ ad z0)) (hS : va_S A H0 H locs) (hlink : (Cond.fieldLink own index ref "starved" "Z").before args s = true) (hsame : ∀ x, s.fieldFound? "SlippedStreamsModel" "starved" "Z" = some x → s.fieldFound? ref "starved" "Z" = some x) (hv : v = 0 ∨ v = 1) (hdg : decode cc pc = .ok (.putfield index, 3)) (es : z1 = stI z0 5 v) (kk : ∀ (H1 : Heap) (locs1 : List Loc), va_P (dC, dI) q_cl (wM cI cZ ad z1) H1 → va_D A (wM cI cZ ad z1) → va_S A H0 H1 locs1 → W p l e Rm s m args below meth c H1 locs1 0 0 Q (F0 m (pc + 3) ls rest)) : W p l e Rm s m args below meth c H locs 0 0 Q (F0 m pc ls (.int v :: .ref (ad 0) :: rest)) := by
  subst es
  exact va_put (D := (dC, dI)) (ci := 9) (ty := .boolean) hx hb hts hin t_SlippedStreamsModel t_SlippedStreamsModel_ok n_SlippedStreamsModel hown hK hP hD hS 0 rfl rfl 14 (by decide) hlink hsame rfl (by decide +kernel) (nB hv) (fB hv) (Nat.le_of_ble_eq_true rfl) hdg (fun H1 locs1 a b d => kk H1 locs1 a b d)
theorem mg_0_queues (hx : p.tables.exec = Jvm.exec) (hb : c.code = cc) (hts : ∀ w ∈ Ts, w.before args s = true) (hin : ∀ w ∈ u_ws R_SlippedStreamsModel F_SlippedStreamsModel 27, w ∈ Ts) (hown : s.vm.findClass own = some m.cls) (hK : va_K (dC, dI) q_cl [(cI, .int), (cZ, .boolean)] s) (hP : va_P (dC, dI) q_cl (wM cI cZ ad z0) H) (hlink : (Cond.fieldLink own index ref "queues" "[I").before args s = true) (hsame : ∀ x, s.fieldFound? "SlippedStreamsModel" "queues" "[I" = some x → s.fieldFound? ref "queues" "[I" = some x) (hdg : decode cc pc = .ok (.getfield index, 3)) (kk : W p l e Rm s m args below meth c H locs 0 0 Q (F0 m (pc + 3) ls (.ref (ad 10) :: rest))) : W p l e Rm s m args below meth c H locs 0 0 Q (F0 m pc ls (.ref (ad 0) :: rest)) :=
  va_get (D := (dC, dI)) (ci := 9) hx hb hts hin hown hK hP 0 rfl rfl 15 (by decide) hlink hsame rfl hdg kk
theorem mg_0_lengths (hx : p.tables.exec = Jvm.exec) (hb : c.code = cc) (hts : ∀ w ∈ Ts, w.before args s = true) (hin : ∀ w ∈ u_ws R_SlippedStreamsModel F_SlippedStreamsModel 27, w ∈ Ts) (hown : s.vm.findClass own = some m.cls) (hK : va_K (dC, dI) q_cl [(cI, .int), (cZ, .boolean)] s) (hP : va_P (dC, dI) q_cl (wM cI cZ ad z0) H) (hlink : (Cond.fieldLink own index ref "lengths" "[I").before args s = true) (hsame : ∀ x, s.fieldFound? "SlippedStreamsModel" "lengths" "[I" = some x → s.fieldFound? ref "lengths" "[I" = some x) (hdg : decode cc pc = .ok (.getfield index, 3)) (kk : W p l e Rm s m args below meth c H locs 0 0 Q (F0 m (pc + 3) ls (.ref (ad 11) :: rest))) : W p l e Rm s m args below meth c H locs 0 0 Q (F0 m pc ls (.ref (ad 0) :: rest)) :=
  va_get (D := (dC, dI)) (ci := 9) hx hb hts hin hown hK hP 0 rfl rfl 16 (by decide) hlink hsame rfl hdg kk
theorem mg_0_stores (hx : p.tables.exec = Jvm.exec) (hb : c.code = cc) (hts : ∀ w ∈ Ts, w.before args s = true) (hin : ∀ w ∈ u_ws R_SlippedStreamsModel F_SlippedStreamsModel 27, w ∈ Ts) (hown : s.vm.findClass own = some m.cls) (hK : va_K (dC, dI) q_cl [(cI, .int), (cZ, .boolean)] s) (hP : va_P (dC, dI) q_cl (wM cI cZ ad z0) H) (hlink : (Cond.fieldLink own index ref "stores" "I").before args s = true) (hsame : ∀ x, s.fieldFound? "SlippedStreamsModel" "stores" "I" = some x → s.fieldFound? ref "stores" "I" = some x) (hdg : decode cc pc = .ok (.getfield index, 3)) (kk : W p l e Rm s m args below meth c H locs 0 0 Q (F0 m (pc + 3) ls (.int (z0.1 6) :: rest))) : W p l e Rm s m args below meth c H locs 0 0 Q (F0 m pc ls (.ref (ad 0) :: rest)) :=
  va_get (D := (dC, dI)) (ci := 9) hx hb hts hin hown hK hP 0 rfl rfl 17 (by decide) hlink hsame rfl hdg kk
theorem mp_0_stores (hx : p.tables.exec = Jvm.exec) (hb : c.code = cc) (hts : ∀ w ∈ Ts, w.before args s = true) (hin : ∀ w ∈ u_ws R_SlippedStreamsModel F_SlippedStreamsModel 27, w ∈ Ts) (hown : s.vm.findClass own = some m.cls) (hK : va_K (dC, dI) q_cl [(cI, .int), (cZ, .boolean)] s) (hP : va_P (dC, dI) q_cl (wM cI cZ ad z0) H) (hD : va_D A (wM cI cZ ad z0)) (hS : va_S A H0 H locs) (hlink : (Cond.fieldLink own index ref "stores" "I").before args s = true) (hsame : ∀ x, s.fieldFound? "SlippedStreamsModel" "stores" "I" = some x → s.fieldFound? ref "stores" "I" = some x) (hdg : decode cc pc = .ok (.putfield index, 3)) (es : z1 = stI z0 6 v) (kk : ∀ (H1 : Heap) (locs1 : List Loc), va_P (dC, dI) q_cl (wM cI cZ ad z1) H1 → va_D A (wM cI cZ ad z1) → va_S A H0 H1 locs1 → W p l e Rm s m args below meth c H1 locs1 0 0 Q (F0 m (pc + 3) ls rest)) : W p l e Rm s m args below meth c H locs 0 0 Q (F0 m pc ls (.int v :: .ref (ad 0) :: rest)) := by
  subst es
  exact va_put (D := (dC, dI)) (ci := 9) (ty := .int) hx hb hts hin t_SlippedStreamsModel t_SlippedStreamsModel_ok n_SlippedStreamsModel hown hK hP hD hS 0 rfl rfl 17 (by decide) hlink hsame rfl (by decide +kernel) rfl rfl (Nat.le_of_ble_eq_true rfl) hdg (fun H1 locs1 a b d => kk H1 locs1 a b d)
theorem mg_0_storeAt (hx : p.tables.exec = Jvm.exec) (hb : c.code = cc) (hts : ∀ w ∈ Ts, w.before args s = true) (hin : ∀ w ∈ u_ws R_SlippedStreamsModel F_SlippedStreamsModel 27, w ∈ Ts) (hown : s.vm.findClass own = some m.cls) (hK : va_K (dC, dI) q_cl [(cI, .int), (cZ, .boolean)] s) (hP : va_P (dC, dI) q_cl (wM cI cZ ad z0) H) (hlink : (Cond.fieldLink own index ref "storeAt" "[I").before args s = true) (hsame : ∀ x, s.fieldFound? "SlippedStreamsModel" "storeAt" "[I" = some x → s.fieldFound? ref "storeAt" "[I" = some x) (hdg : decode cc pc = .ok (.getfield index, 3)) (kk : W p l e Rm s m args below meth c H locs 0 0 Q (F0 m (pc + 3) ls (.ref (ad 12) :: rest))) : W p l e Rm s m args below meth c H locs 0 0 Q (F0 m pc ls (.ref (ad 0) :: rest)) :=
  va_get (D := (dC, dI)) (ci := 9) hx hb hts hin hown hK hP 0 rfl rfl 18 (by decide) hlink hsame rfl hdg kk
theorem mg_0_storeWord (hx : p.tables.exec = Jvm.exec) (hb : c.code = cc) (hts : ∀ w ∈ Ts, w.before args s = true) (hin : ∀ w ∈ u_ws R_SlippedStreamsModel F_SlippedStreamsModel 27, w ∈ Ts) (hown : s.vm.findClass own = some m.cls) (hK : va_K (dC, dI) q_cl [(cI, .int), (cZ, .boolean)] s) (hP : va_P (dC, dI) q_cl (wM cI cZ ad z0) H) (hlink : (Cond.fieldLink own index ref "storeWord" "[I").before args s = true) (hsame : ∀ x, s.fieldFound? "SlippedStreamsModel" "storeWord" "[I" = some x → s.fieldFound? ref "storeWord" "[I" = some x) (hdg : decode cc pc = .ok (.getfield index, 3)) (kk : W p l e Rm s m args below meth c H locs 0 0 Q (F0 m (pc + 3) ls (.ref (ad 13) :: rest))) : W p l e Rm s m args below meth c H locs 0 0 Q (F0 m pc ls (.ref (ad 0) :: rest)) :=
  va_get (D := (dC, dI)) (ci := 9) hx hb hts hin hown hK hP 0 rfl rfl 19 (by decide) hlink hsame rfl hdg kk
theorem mg_0_storeThere (hx : p.tables.exec = Jvm.exec) (hb : c.code = cc) (hts : ∀ w ∈ Ts, w.before args s = true) (hin : ∀ w ∈ u_ws R_SlippedStreamsModel F_SlippedStreamsModel 27, w ∈ Ts) (hown : s.vm.findClass own = some m.cls) (hK : va_K (dC, dI) q_cl [(cI, .int), (cZ, .boolean)] s) (hP : va_P (dC, dI) q_cl (wM cI cZ ad z0) H) (hlink : (Cond.fieldLink own index ref "storeThere" "[Z").before args s = true) (hsame : ∀ x, s.fieldFound? "SlippedStreamsModel" "storeThere" "[Z" = some x → s.fieldFound? ref "storeThere" "[Z" = some x) (hdg : decode cc pc = .ok (.getfield index, 3)) (kk : W p l e Rm s m args below meth c H locs 0 0 Q (F0 m (pc + 3) ls (.ref (ad 14) :: rest))) : W p l e Rm s m args below meth c H locs 0 0 Q (F0 m pc ls (.ref (ad 0) :: rest)) :=
  va_get (D := (dC, dI)) (ci := 9) hx hb hts hin hown hK hP 0 rfl rfl 20 (by decide) hlink hsame rfl hdg kk
theorem mg_0_plainRegisters (hx : p.tables.exec = Jvm.exec) (hb : c.code = cc) (hts : ∀ w ∈ Ts, w.before args s = true) (hin : ∀ w ∈ u_ws R_SlippedStreamsModel F_SlippedStreamsModel 27, w ∈ Ts) (hown : s.vm.findClass own = some m.cls) (hK : va_K (dC, dI) q_cl [(cI, .int), (cZ, .boolean)] s) (hP : va_P (dC, dI) q_cl (wM cI cZ ad z0) H) (hlink : (Cond.fieldLink own index ref "plainRegisters" "[I").before args s = true) (hsame : ∀ x, s.fieldFound? "SlippedStreamsModel" "plainRegisters" "[I" = some x → s.fieldFound? ref "plainRegisters" "[I" = some x) (hdg : decode cc pc = .ok (.getfield index, 3)) (kk : W p l e Rm s m args below meth c H locs 0 0 Q (F0 m (pc + 3) ls (.ref (ad 15) :: rest))) : W p l e Rm s m args below meth c H locs 0 0 Q (F0 m pc ls (.ref (ad 0) :: rest)) :=
  va_get (D := (dC, dI)) (ci := 9) hx hb hts hin hown hK hP 0 rfl rfl 21 (by decide) hlink hsame rfl hdg kk
theorem mg_0_plainMemory (hx : p.tables.exec = Jvm.exec) (hb : c.code = cc) (hts : ∀ w ∈ Ts, w.before args s = true) (hin : ∀ w ∈ u_ws R_SlippedStreamsModel F_SlippedStreamsModel 27, w ∈ Ts) (hown : s.vm.findClass own = some m.cls) (hK : va_K (dC, dI) q_cl [(cI, .int), (cZ, .boolean)] s) (hP : va_P (dC, dI) q_cl (wM cI cZ ad z0) H) (hlink : (Cond.fieldLink own index ref "plainMemory" "[I").before args s = true) (hsame : ∀ x, s.fieldFound? "SlippedStreamsModel" "plainMemory" "[I" = some x → s.fieldFound? ref "plainMemory" "[I" = some x) (hdg : decode cc pc = .ok (.getfield index, 3)) (kk : W p l e Rm s m args below meth c H locs 0 0 Q (F0 m (pc + 3) ls (.ref (ad 16) :: rest))) : W p l e Rm s m args below meth c H locs 0 0 Q (F0 m pc ls (.ref (ad 0) :: rest)) :=
  va_get (D := (dC, dI)) (ci := 9) hx hb hts hin hown hK hP 0 rfl rfl 22 (by decide) hlink hsame rfl hdg kk
theorem mg_0_plainPlace (hx : p.tables.exec = Jvm.exec) (hb : c.code = cc) (hts : ∀ w ∈ Ts, w.before args s = true) (hin : ∀ w ∈ u_ws R_SlippedStreamsModel F_SlippedStreamsModel 27, w ∈ Ts) (hown : s.vm.findClass own = some m.cls) (hK : va_K (dC, dI) q_cl [(cI, .int), (cZ, .boolean)] s) (hP : va_P (dC, dI) q_cl (wM cI cZ ad z0) H) (hlink : (Cond.fieldLink own index ref "plainPlace" "I").before args s = true) (hsame : ∀ x, s.fieldFound? "SlippedStreamsModel" "plainPlace" "I" = some x → s.fieldFound? ref "plainPlace" "I" = some x) (hdg : decode cc pc = .ok (.getfield index, 3)) (kk : W p l e Rm s m args below meth c H locs 0 0 Q (F0 m (pc + 3) ls (.int (z0.1 7) :: rest))) : W p l e Rm s m args below meth c H locs 0 0 Q (F0 m pc ls (.ref (ad 0) :: rest)) :=
  va_get (D := (dC, dI)) (ci := 9) hx hb hts hin hown hK hP 0 rfl rfl 23 (by decide) hlink hsame rfl hdg kk
theorem mp_0_plainPlace (hx : p.tables.exec = Jvm.exec) (hb : c.code = cc) (hts : ∀ w ∈ Ts, w.before args s = true) (hin : ∀ w ∈ u_ws R_SlippedStreamsModel F_SlippedStreamsModel 27, w ∈ Ts) (hown : s.vm.findClass own = some m.cls) (hK : va_K (dC, dI) q_cl [(cI, .int), (cZ, .boolean)] s) (hP : va_P (dC, dI) q_cl (wM cI cZ ad z0) H) (hD : va_D A (wM cI cZ ad z0)) (hS : va_S A H0 H locs) (hlink : (Cond.fieldLink own index ref "plainPlace" "I").before args s = true) (hsame : ∀ x, s.fieldFound? "SlippedStreamsModel" "plainPlace" "I" = some x → s.fieldFound? ref "plainPlace" "I" = some x) (hdg : decode cc pc = .ok (.putfield index, 3)) (es : z1 = stI z0 7 v) (kk : ∀ (H1 : Heap) (locs1 : List Loc), va_P (dC, dI) q_cl (wM cI cZ ad z1) H1 → va_D A (wM cI cZ ad z1) → va_S A H0 H1 locs1 → W p l e Rm s m args below meth c H1 locs1 0 0 Q (F0 m (pc + 3) ls rest)) : W p l e Rm s m args below meth c H locs 0 0 Q (F0 m pc ls (.int v :: .ref (ad 0) :: rest)) := by
  subst es
  exact va_put (D := (dC, dI)) (ci := 9) (ty := .int) hx hb hts hin t_SlippedStreamsModel t_SlippedStreamsModel_ok n_SlippedStreamsModel hown hK hP hD hS 0 rfl rfl 23 (by decide) hlink hsame rfl (by decide +kernel) rfl rfl (Nat.le_of_ble_eq_true rfl) hdg (fun H1 locs1 a b d => kk H1 locs1 a b d)
theorem mg_0_written (hx : p.tables.exec = Jvm.exec) (hb : c.code = cc) (hts : ∀ w ∈ Ts, w.before args s = true) (hin : ∀ w ∈ u_ws R_SlippedStreamsModel F_SlippedStreamsModel 27, w ∈ Ts) (hown : s.vm.findClass own = some m.cls) (hK : va_K (dC, dI) q_cl [(cI, .int), (cZ, .boolean)] s) (hP : va_P (dC, dI) q_cl (wM cI cZ ad z0) H) (hlink : (Cond.fieldLink own index ref "written" "[I").before args s = true) (hsame : ∀ x, s.fieldFound? "SlippedStreamsModel" "written" "[I" = some x → s.fieldFound? ref "written" "[I" = some x) (hdg : decode cc pc = .ok (.getfield index, 3)) (kk : W p l e Rm s m args below meth c H locs 0 0 Q (F0 m (pc + 3) ls (.ref (ad 17) :: rest))) : W p l e Rm s m args below meth c H locs 0 0 Q (F0 m pc ls (.ref (ad 0) :: rest)) :=
  va_get (D := (dC, dI)) (ci := 9) hx hb hts hin hown hK hP 0 rfl rfl 24 (by decide) hlink hsame rfl hdg kk
theorem mg_0_streamOutputs (hx : p.tables.exec = Jvm.exec) (hb : c.code = cc) (hts : ∀ w ∈ Ts, w.before args s = true) (hin : ∀ w ∈ u_ws R_SlippedStreamsModel F_SlippedStreamsModel 27, w ∈ Ts) (hown : s.vm.findClass own = some m.cls) (hK : va_K (dC, dI) q_cl [(cI, .int), (cZ, .boolean)] s) (hP : va_P (dC, dI) q_cl (wM cI cZ ad z0) H) (hlink : (Cond.fieldLink own index ref "streamOutputs" "I").before args s = true) (hsame : ∀ x, s.fieldFound? "SlippedStreamsModel" "streamOutputs" "I" = some x → s.fieldFound? ref "streamOutputs" "I" = some x) (hdg : decode cc pc = .ok (.getfield index, 3)) (kk : W p l e Rm s m args below meth c H locs 0 0 Q (F0 m (pc + 3) ls (.int (z0.1 8) :: rest))) : W p l e Rm s m args below meth c H locs 0 0 Q (F0 m pc ls (.ref (ad 0) :: rest)) :=
  va_get (D := (dC, dI)) (ci := 9) hx hb hts hin hown hK hP 0 rfl rfl 25 (by decide) hlink hsame rfl hdg kk
theorem mp_0_streamOutputs (hx : p.tables.exec = Jvm.exec) (hb : c.code = cc) (hts : ∀ w ∈ Ts, w.before args s = true) (hin : ∀ w ∈ u_ws R_SlippedStreamsModel F_SlippedStreamsModel 27, w ∈ Ts) (hown : s.vm.findClass own = some m.cls) (hK : va_K (dC, dI) q_cl [(cI, .int), (cZ, .boolean)] s) (hP : va_P (dC, dI) q_cl (wM cI cZ ad z0) H) (hD : va_D A (wM cI cZ ad z0)) (hS : va_S A H0 H locs) (hlink : (Cond.fieldLink own index ref "streamOutputs" "I").before args s = true) (hsame : ∀ x, s.fieldFound? "SlippedStreamsModel" "streamOutputs" "I" = some x → s.fieldFound? ref "streamOutputs" "I" = some x) (hdg : decode cc pc = .ok (.putfield index, 3)) (es : z1 = stI z0 8 v) (kk : ∀ (H1 : Heap) (locs1 : List Loc), va_P (dC, dI) q_cl (wM cI cZ ad z1) H1 → va_D A (wM cI cZ ad z1) → va_S A H0 H1 locs1 → W p l e Rm s m args below meth c H1 locs1 0 0 Q (F0 m (pc + 3) ls rest)) : W p l e Rm s m args below meth c H locs 0 0 Q (F0 m pc ls (.int v :: .ref (ad 0) :: rest)) := by
  subst es
  exact va_put (D := (dC, dI)) (ci := 9) (ty := .int) hx hb hts hin t_SlippedStreamsModel t_SlippedStreamsModel_ok n_SlippedStreamsModel hown hK hP hD hS 0 rfl rfl 25 (by decide) hlink hsame rfl (by decide +kernel) rfl rfl (Nat.le_of_ble_eq_true rfl) hdg (fun H1 locs1 a b d => kk H1 locs1 a b d)
theorem mg_0_plainOutputs (hx : p.tables.exec = Jvm.exec) (hb : c.code = cc) (hts : ∀ w ∈ Ts, w.before args s = true) (hin : ∀ w ∈ u_ws R_SlippedStreamsModel F_SlippedStreamsModel 27, w ∈ Ts) (hown : s.vm.findClass own = some m.cls) (hK : va_K (dC, dI) q_cl [(cI, .int), (cZ, .boolean)] s) (hP : va_P (dC, dI) q_cl (wM cI cZ ad z0) H) (hlink : (Cond.fieldLink own index ref "plainOutputs" "I").before args s = true) (hsame : ∀ x, s.fieldFound? "SlippedStreamsModel" "plainOutputs" "I" = some x → s.fieldFound? ref "plainOutputs" "I" = some x) (hdg : decode cc pc = .ok (.getfield index, 3)) (kk : W p l e Rm s m args below meth c H locs 0 0 Q (F0 m (pc + 3) ls (.int (z0.1 9) :: rest))) : W p l e Rm s m args below meth c H locs 0 0 Q (F0 m pc ls (.ref (ad 0) :: rest)) :=
  va_get (D := (dC, dI)) (ci := 9) hx hb hts hin hown hK hP 0 rfl rfl 26 (by decide) hlink hsame rfl hdg kk
theorem mp_0_plainOutputs (hx : p.tables.exec = Jvm.exec) (hb : c.code = cc) (hts : ∀ w ∈ Ts, w.before args s = true) (hin : ∀ w ∈ u_ws R_SlippedStreamsModel F_SlippedStreamsModel 27, w ∈ Ts) (hown : s.vm.findClass own = some m.cls) (hK : va_K (dC, dI) q_cl [(cI, .int), (cZ, .boolean)] s) (hP : va_P (dC, dI) q_cl (wM cI cZ ad z0) H) (hD : va_D A (wM cI cZ ad z0)) (hS : va_S A H0 H locs) (hlink : (Cond.fieldLink own index ref "plainOutputs" "I").before args s = true) (hsame : ∀ x, s.fieldFound? "SlippedStreamsModel" "plainOutputs" "I" = some x → s.fieldFound? ref "plainOutputs" "I" = some x) (hdg : decode cc pc = .ok (.putfield index, 3)) (es : z1 = stI z0 9 v) (kk : ∀ (H1 : Heap) (locs1 : List Loc), va_P (dC, dI) q_cl (wM cI cZ ad z1) H1 → va_D A (wM cI cZ ad z1) → va_S A H0 H1 locs1 → W p l e Rm s m args below meth c H1 locs1 0 0 Q (F0 m (pc + 3) ls rest)) : W p l e Rm s m args below meth c H locs 0 0 Q (F0 m pc ls (.int v :: .ref (ad 0) :: rest)) := by
  subst es
  exact va_put (D := (dC, dI)) (ci := 9) (ty := .int) hx hb hts hin t_SlippedStreamsModel t_SlippedStreamsModel_ok n_SlippedStreamsModel hown hK hP hD hS 0 rfl rfl 26 (by decide) hlink hsame rfl (by decide +kernel) rfl rfl (Nat.le_of_ble_eq_true rfl) hdg (fun H1 locs1 a b d => kk H1 locs1 a b d)
theorem ml_0 (hx : p.tables.exec = Jvm.exec) (hb : c.code = cc) (hK : va_K (dC, dI) q_cl [(cI, .int), (cZ, .boolean)] s) (hP : va_P (dC, dI) q_cl (wM cI cZ ad z0) H) (hi : vp_in i 24) (hdg : decode cc pc = .ok (.iaload, 1)) (kk : W p l e Rm s m args below meth c H locs 0 0 Q (F0 m (pc + 1) ls (.int (z0.2 0 i.toNatClampNeg) :: rest))) : W p l e Rm s m args below meth c H locs 0 0 Q (F0 m pc ls (.int i :: .ref (ad 1) :: rest)) :=
  va_iald (D := (dC, dI)) hx hb hK hP 1 0 rfl rfl hi hdg kk
theorem ms_0 (hx : p.tables.exec = Jvm.exec) (hb : c.code = cc) (hK : va_K (dC, dI) q_cl [(cI, .int), (cZ, .boolean)] s) (hP : va_P (dC, dI) q_cl (wM cI cZ ad z0) H) (hD : va_D A (wM cI cZ ad z0)) (hS : va_S A H0 H locs) (hi : vp_in i 24) (hdg : decode cc pc = .ok (.iastore, 1)) (es : z1 = stA z0 0 (upd (z0.2 0) i.toNatClampNeg v)) (kk : ∀ (H1 : Heap) (locs1 : List Loc), va_P (dC, dI) q_cl (wM cI cZ ad z1) H1 → va_D A (wM cI cZ ad z1) → va_S A H0 H1 locs1 → W p l e Rm s m args below meth c H1 locs1 0 0 Q (F0 m (pc + 1) ls rest)) : W p l e Rm s m args below meth c H locs 0 0 Q (F0 m pc ls (.int v :: .int i :: .ref (ad 1) :: rest)) := by
  subst es
  exact va_iast (D := (dC, dI)) hx hb hK hP hD hS 1 0 rfl rfl hi hdg (fun H1 locs1 a b d => kk H1 locs1 (a) (b) d)
theorem ml_1 (hx : p.tables.exec = Jvm.exec) (hb : c.code = cc) (hK : va_K (dC, dI) q_cl [(cI, .int), (cZ, .boolean)] s) (hP : va_P (dC, dI) q_cl (wM cI cZ ad z0) H) (hi : vp_in i 24) (hdg : decode cc pc = .ok (.iaload, 1)) (kk : W p l e Rm s m args below meth c H locs 0 0 Q (F0 m (pc + 1) ls (.int (z0.2 1 i.toNatClampNeg) :: rest))) : W p l e Rm s m args below meth c H locs 0 0 Q (F0 m pc ls (.int i :: .ref (ad 2) :: rest)) :=
  va_iald (D := (dC, dI)) hx hb hK hP 2 0 rfl rfl hi hdg kk
theorem ms_1 (hx : p.tables.exec = Jvm.exec) (hb : c.code = cc) (hK : va_K (dC, dI) q_cl [(cI, .int), (cZ, .boolean)] s) (hP : va_P (dC, dI) q_cl (wM cI cZ ad z0) H) (hD : va_D A (wM cI cZ ad z0)) (hS : va_S A H0 H locs) (hi : vp_in i 24) (hdg : decode cc pc = .ok (.iastore, 1)) (es : z1 = stA z0 1 (upd (z0.2 1) i.toNatClampNeg v)) (kk : ∀ (H1 : Heap) (locs1 : List Loc), va_P (dC, dI) q_cl (wM cI cZ ad z1) H1 → va_D A (wM cI cZ ad z1) → va_S A H0 H1 locs1 → W p l e Rm s m args below meth c H1 locs1 0 0 Q (F0 m (pc + 1) ls rest)) : W p l e Rm s m args below meth c H locs 0 0 Q (F0 m pc ls (.int v :: .int i :: .ref (ad 2) :: rest)) := by
  subst es
  exact va_iast (D := (dC, dI)) hx hb hK hP hD hS 2 0 rfl rfl hi hdg (fun H1 locs1 a b d => kk H1 locs1 (a) (b) d)
theorem ml_2 (hx : p.tables.exec = Jvm.exec) (hb : c.code = cc) (hK : va_K (dC, dI) q_cl [(cI, .int), (cZ, .boolean)] s) (hP : va_P (dC, dI) q_cl (wM cI cZ ad z0) H) (hi : vp_in i 24) (hdg : decode cc pc = .ok (.iaload, 1)) (kk : W p l e Rm s m args below meth c H locs 0 0 Q (F0 m (pc + 1) ls (.int (z0.2 2 i.toNatClampNeg) :: rest))) : W p l e Rm s m args below meth c H locs 0 0 Q (F0 m pc ls (.int i :: .ref (ad 3) :: rest)) :=
  va_iald (D := (dC, dI)) hx hb hK hP 3 0 rfl rfl hi hdg kk
theorem ms_2 (hx : p.tables.exec = Jvm.exec) (hb : c.code = cc) (hK : va_K (dC, dI) q_cl [(cI, .int), (cZ, .boolean)] s) (hP : va_P (dC, dI) q_cl (wM cI cZ ad z0) H) (hD : va_D A (wM cI cZ ad z0)) (hS : va_S A H0 H locs) (hi : vp_in i 24) (hdg : decode cc pc = .ok (.iastore, 1)) (es : z1 = stA z0 2 (upd (z0.2 2) i.toNatClampNeg v)) (kk : ∀ (H1 : Heap) (locs1 : List Loc), va_P (dC, dI) q_cl (wM cI cZ ad z1) H1 → va_D A (wM cI cZ ad z1) → va_S A H0 H1 locs1 → W p l e Rm s m args below meth c H1 locs1 0 0 Q (F0 m (pc + 1) ls rest)) : W p l e Rm s m args below meth c H locs 0 0 Q (F0 m pc ls (.int v :: .int i :: .ref (ad 3) :: rest)) := by
  subst es
  exact va_iast (D := (dC, dI)) hx hb hK hP hD hS 3 0 rfl rfl hi hdg (fun H1 locs1 a b d => kk H1 locs1 (a) (b) d)
theorem ml_3 (hx : p.tables.exec = Jvm.exec) (hb : c.code = cc) (hK : va_K (dC, dI) q_cl [(cI, .int), (cZ, .boolean)] s) (hP : va_P (dC, dI) q_cl (wM cI cZ ad z0) H) (hi : vp_in i 24) (hdg : decode cc pc = .ok (.iaload, 1)) (kk : W p l e Rm s m args below meth c H locs 0 0 Q (F0 m (pc + 1) ls (.int (z0.2 3 i.toNatClampNeg) :: rest))) : W p l e Rm s m args below meth c H locs 0 0 Q (F0 m pc ls (.int i :: .ref (ad 4) :: rest)) :=
  va_iald (D := (dC, dI)) hx hb hK hP 4 0 rfl rfl hi hdg kk
theorem ms_3 (hx : p.tables.exec = Jvm.exec) (hb : c.code = cc) (hK : va_K (dC, dI) q_cl [(cI, .int), (cZ, .boolean)] s) (hP : va_P (dC, dI) q_cl (wM cI cZ ad z0) H) (hD : va_D A (wM cI cZ ad z0)) (hS : va_S A H0 H locs) (hi : vp_in i 24) (hdg : decode cc pc = .ok (.iastore, 1)) (es : z1 = stA z0 3 (upd (z0.2 3) i.toNatClampNeg v)) (kk : ∀ (H1 : Heap) (locs1 : List Loc), va_P (dC, dI) q_cl (wM cI cZ ad z1) H1 → va_D A (wM cI cZ ad z1) → va_S A H0 H1 locs1 → W p l e Rm s m args below meth c H1 locs1 0 0 Q (F0 m (pc + 1) ls rest)) : W p l e Rm s m args below meth c H locs 0 0 Q (F0 m pc ls (.int v :: .int i :: .ref (ad 4) :: rest)) := by
  subst es
  exact va_iast (D := (dC, dI)) hx hb hK hP hD hS 4 0 rfl rfl hi hdg (fun H1 locs1 a b d => kk H1 locs1 (a) (b) d)
theorem ml_4 (hx : p.tables.exec = Jvm.exec) (hb : c.code = cc) (hK : va_K (dC, dI) q_cl [(cI, .int), (cZ, .boolean)] s) (hP : va_P (dC, dI) q_cl (wM cI cZ ad z0) H) (hi : vp_in i 8) (hdg : decode cc pc = .ok (.baload, 1)) (kk : W p l e Rm s m args below meth c H locs 0 0 Q (F0 m (pc + 1) ls (.int (z0.2 4 i.toNatClampNeg) :: rest))) : W p l e Rm s m args below meth c H locs 0 0 Q (F0 m pc ls (.int i :: .ref (ad 5) :: rest)) :=
  va_zald (D := (dC, dI)) hx hb hK hP 5 1 rfl rfl hi hdg kk
theorem ms_4 (hx : p.tables.exec = Jvm.exec) (hb : c.code = cc) (hK : va_K (dC, dI) q_cl [(cI, .int), (cZ, .boolean)] s) (hP : va_P (dC, dI) q_cl (wM cI cZ ad z0) H) (hD : va_D A (wM cI cZ ad z0)) (hS : va_S A H0 H locs) (hi : vp_in i 8) (hv : v = 0 ∨ v = 1) (hdg : decode cc pc = .ok (.bastore, 1)) (es : z1 = stA z0 4 (upd (z0.2 4) i.toNatClampNeg v)) (kk : ∀ (H1 : Heap) (locs1 : List Loc), va_P (dC, dI) q_cl (wM cI cZ ad z1) H1 → va_D A (wM cI cZ ad z1) → va_S A H0 H1 locs1 → W p l e Rm s m args below meth c H1 locs1 0 0 Q (F0 m (pc + 1) ls rest)) : W p l e Rm s m args below meth c H locs 0 0 Q (F0 m pc ls (.int v :: .int i :: .ref (ad 5) :: rest)) := by
  subst es
  exact va_zast (D := (dC, dI)) hx hb hK hP hD hS 5 1 rfl rfl hi hdg (fun H1 locs1 a b d => kk H1 locs1 (by rw [vB hv] at a; exact a) (by rw [vB hv] at b; exact b) d)
theorem ml_5 (hx : p.tables.exec = Jvm.exec) (hb : c.code = cc) (hK : va_K (dC, dI) q_cl [(cI, .int), (cZ, .boolean)] s) (hP : va_P (dC, dI) q_cl (wM cI cZ ad z0) H) (hi : vp_in i 16) (hdg : decode cc pc = .ok (.iaload, 1)) (kk : W p l e Rm s m args below meth c H locs 0 0 Q (F0 m (pc + 1) ls (.int (z0.2 5 i.toNatClampNeg) :: rest))) : W p l e Rm s m args below meth c H locs 0 0 Q (F0 m pc ls (.int i :: .ref (ad 6) :: rest)) :=
  va_iald (D := (dC, dI)) hx hb hK hP 6 0 rfl rfl hi hdg kk
theorem ms_5 (hx : p.tables.exec = Jvm.exec) (hb : c.code = cc) (hK : va_K (dC, dI) q_cl [(cI, .int), (cZ, .boolean)] s) (hP : va_P (dC, dI) q_cl (wM cI cZ ad z0) H) (hD : va_D A (wM cI cZ ad z0)) (hS : va_S A H0 H locs) (hi : vp_in i 16) (hdg : decode cc pc = .ok (.iastore, 1)) (es : z1 = stA z0 5 (upd (z0.2 5) i.toNatClampNeg v)) (kk : ∀ (H1 : Heap) (locs1 : List Loc), va_P (dC, dI) q_cl (wM cI cZ ad z1) H1 → va_D A (wM cI cZ ad z1) → va_S A H0 H1 locs1 → W p l e Rm s m args below meth c H1 locs1 0 0 Q (F0 m (pc + 1) ls rest)) : W p l e Rm s m args below meth c H locs 0 0 Q (F0 m pc ls (.int v :: .int i :: .ref (ad 6) :: rest)) := by
  subst es
  exact va_iast (D := (dC, dI)) hx hb hK hP hD hS 6 0 rfl rfl hi hdg (fun H1 locs1 a b d => kk H1 locs1 (a) (b) d)
theorem ml_6 (hx : p.tables.exec = Jvm.exec) (hb : c.code = cc) (hK : va_K (dC, dI) q_cl [(cI, .int), (cZ, .boolean)] s) (hP : va_P (dC, dI) q_cl (wM cI cZ ad z0) H) (hi : vp_in i 2) (hdg : decode cc pc = .ok (.iaload, 1)) (kk : W p l e Rm s m args below meth c H locs 0 0 Q (F0 m (pc + 1) ls (.int (z0.2 6 i.toNatClampNeg) :: rest))) : W p l e Rm s m args below meth c H locs 0 0 Q (F0 m pc ls (.int i :: .ref (ad 7) :: rest)) :=
  va_iald (D := (dC, dI)) hx hb hK hP 7 0 rfl rfl hi hdg kk
theorem ms_6 (hx : p.tables.exec = Jvm.exec) (hb : c.code = cc) (hK : va_K (dC, dI) q_cl [(cI, .int), (cZ, .boolean)] s) (hP : va_P (dC, dI) q_cl (wM cI cZ ad z0) H) (hD : va_D A (wM cI cZ ad z0)) (hS : va_S A H0 H locs) (hi : vp_in i 2) (hdg : decode cc pc = .ok (.iastore, 1)) (es : z1 = stA z0 6 (upd (z0.2 6) i.toNatClampNeg v)) (kk : ∀ (H1 : Heap) (locs1 : List Loc), va_P (dC, dI) q_cl (wM cI cZ ad z1) H1 → va_D A (wM cI cZ ad z1) → va_S A H0 H1 locs1 → W p l e Rm s m args below meth c H1 locs1 0 0 Q (F0 m (pc + 1) ls rest)) : W p l e Rm s m args below meth c H locs 0 0 Q (F0 m pc ls (.int v :: .int i :: .ref (ad 7) :: rest)) := by
  subst es
  exact va_iast (D := (dC, dI)) hx hb hK hP hD hS 7 0 rfl rfl hi hdg (fun H1 locs1 a b d => kk H1 locs1 (a) (b) d)
theorem ml_7 (hx : p.tables.exec = Jvm.exec) (hb : c.code = cc) (hK : va_K (dC, dI) q_cl [(cI, .int), (cZ, .boolean)] s) (hP : va_P (dC, dI) q_cl (wM cI cZ ad z0) H) (hi : vp_in i 2) (hdg : decode cc pc = .ok (.iaload, 1)) (kk : W p l e Rm s m args below meth c H locs 0 0 Q (F0 m (pc + 1) ls (.int (z0.2 7 i.toNatClampNeg) :: rest))) : W p l e Rm s m args below meth c H locs 0 0 Q (F0 m pc ls (.int i :: .ref (ad 8) :: rest)) :=
  va_iald (D := (dC, dI)) hx hb hK hP 8 0 rfl rfl hi hdg kk
theorem ms_7 (hx : p.tables.exec = Jvm.exec) (hb : c.code = cc) (hK : va_K (dC, dI) q_cl [(cI, .int), (cZ, .boolean)] s) (hP : va_P (dC, dI) q_cl (wM cI cZ ad z0) H) (hD : va_D A (wM cI cZ ad z0)) (hS : va_S A H0 H locs) (hi : vp_in i 2) (hdg : decode cc pc = .ok (.iastore, 1)) (es : z1 = stA z0 7 (upd (z0.2 7) i.toNatClampNeg v)) (kk : ∀ (H1 : Heap) (locs1 : List Loc), va_P (dC, dI) q_cl (wM cI cZ ad z1) H1 → va_D A (wM cI cZ ad z1) → va_S A H0 H1 locs1 → W p l e Rm s m args below meth c H1 locs1 0 0 Q (F0 m (pc + 1) ls rest)) : W p l e Rm s m args below meth c H locs 0 0 Q (F0 m pc ls (.int v :: .int i :: .ref (ad 8) :: rest)) := by
  subst es
  exact va_iast (D := (dC, dI)) hx hb hK hP hD hS 8 0 rfl rfl hi hdg (fun H1 locs1 a b d => kk H1 locs1 (a) (b) d)
theorem ml_8 (hx : p.tables.exec = Jvm.exec) (hb : c.code = cc) (hK : va_K (dC, dI) q_cl [(cI, .int), (cZ, .boolean)] s) (hP : va_P (dC, dI) q_cl (wM cI cZ ad z0) H) (hi : vp_in i 32) (hdg : decode cc pc = .ok (.iaload, 1)) (kk : W p l e Rm s m args below meth c H locs 0 0 Q (F0 m (pc + 1) ls (.int (z0.2 8 i.toNatClampNeg) :: rest))) : W p l e Rm s m args below meth c H locs 0 0 Q (F0 m pc ls (.int i :: .ref (ad 9) :: rest)) :=
  va_iald (D := (dC, dI)) hx hb hK hP 9 0 rfl rfl hi hdg kk
theorem ms_8 (hx : p.tables.exec = Jvm.exec) (hb : c.code = cc) (hK : va_K (dC, dI) q_cl [(cI, .int), (cZ, .boolean)] s) (hP : va_P (dC, dI) q_cl (wM cI cZ ad z0) H) (hD : va_D A (wM cI cZ ad z0)) (hS : va_S A H0 H locs) (hi : vp_in i 32) (hdg : decode cc pc = .ok (.iastore, 1)) (es : z1 = stA z0 8 (upd (z0.2 8) i.toNatClampNeg v)) (kk : ∀ (H1 : Heap) (locs1 : List Loc), va_P (dC, dI) q_cl (wM cI cZ ad z1) H1 → va_D A (wM cI cZ ad z1) → va_S A H0 H1 locs1 → W p l e Rm s m args below meth c H1 locs1 0 0 Q (F0 m (pc + 1) ls rest)) : W p l e Rm s m args below meth c H locs 0 0 Q (F0 m pc ls (.int v :: .int i :: .ref (ad 9) :: rest)) := by
  subst es
  exact va_iast (D := (dC, dI)) hx hb hK hP hD hS 9 0 rfl rfl hi hdg (fun H1 locs1 a b d => kk H1 locs1 (a) (b) d)
theorem ml_9 (hx : p.tables.exec = Jvm.exec) (hb : c.code = cc) (hK : va_K (dC, dI) q_cl [(cI, .int), (cZ, .boolean)] s) (hP : va_P (dC, dI) q_cl (wM cI cZ ad z0) H) (hi : vp_in i 30) (hdg : decode cc pc = .ok (.iaload, 1)) (kk : W p l e Rm s m args below meth c H locs 0 0 Q (F0 m (pc + 1) ls (.int (z0.2 9 i.toNatClampNeg) :: rest))) : W p l e Rm s m args below meth c H locs 0 0 Q (F0 m pc ls (.int i :: .ref (ad 10) :: rest)) :=
  va_iald (D := (dC, dI)) hx hb hK hP 10 0 rfl rfl hi hdg kk
theorem ms_9 (hx : p.tables.exec = Jvm.exec) (hb : c.code = cc) (hK : va_K (dC, dI) q_cl [(cI, .int), (cZ, .boolean)] s) (hP : va_P (dC, dI) q_cl (wM cI cZ ad z0) H) (hD : va_D A (wM cI cZ ad z0)) (hS : va_S A H0 H locs) (hi : vp_in i 30) (hdg : decode cc pc = .ok (.iastore, 1)) (es : z1 = stA z0 9 (upd (z0.2 9) i.toNatClampNeg v)) (kk : ∀ (H1 : Heap) (locs1 : List Loc), va_P (dC, dI) q_cl (wM cI cZ ad z1) H1 → va_D A (wM cI cZ ad z1) → va_S A H0 H1 locs1 → W p l e Rm s m args below meth c H1 locs1 0 0 Q (F0 m (pc + 1) ls rest)) : W p l e Rm s m args below meth c H locs 0 0 Q (F0 m pc ls (.int v :: .int i :: .ref (ad 10) :: rest)) := by
  subst es
  exact va_iast (D := (dC, dI)) hx hb hK hP hD hS 10 0 rfl rfl hi hdg (fun H1 locs1 a b d => kk H1 locs1 (a) (b) d)
theorem ml_10 (hx : p.tables.exec = Jvm.exec) (hb : c.code = cc) (hK : va_K (dC, dI) q_cl [(cI, .int), (cZ, .boolean)] s) (hP : va_P (dC, dI) q_cl (wM cI cZ ad z0) H) (hi : vp_in i 5) (hdg : decode cc pc = .ok (.iaload, 1)) (kk : W p l e Rm s m args below meth c H locs 0 0 Q (F0 m (pc + 1) ls (.int (z0.2 10 i.toNatClampNeg) :: rest))) : W p l e Rm s m args below meth c H locs 0 0 Q (F0 m pc ls (.int i :: .ref (ad 11) :: rest)) :=
  va_iald (D := (dC, dI)) hx hb hK hP 11 0 rfl rfl hi hdg kk
theorem ms_10 (hx : p.tables.exec = Jvm.exec) (hb : c.code = cc) (hK : va_K (dC, dI) q_cl [(cI, .int), (cZ, .boolean)] s) (hP : va_P (dC, dI) q_cl (wM cI cZ ad z0) H) (hD : va_D A (wM cI cZ ad z0)) (hS : va_S A H0 H locs) (hi : vp_in i 5) (hdg : decode cc pc = .ok (.iastore, 1)) (es : z1 = stA z0 10 (upd (z0.2 10) i.toNatClampNeg v)) (kk : ∀ (H1 : Heap) (locs1 : List Loc), va_P (dC, dI) q_cl (wM cI cZ ad z1) H1 → va_D A (wM cI cZ ad z1) → va_S A H0 H1 locs1 → W p l e Rm s m args below meth c H1 locs1 0 0 Q (F0 m (pc + 1) ls rest)) : W p l e Rm s m args below meth c H locs 0 0 Q (F0 m pc ls (.int v :: .int i :: .ref (ad 11) :: rest)) := by
  subst es
  exact va_iast (D := (dC, dI)) hx hb hK hP hD hS 11 0 rfl rfl hi hdg (fun H1 locs1 a b d => kk H1 locs1 (a) (b) d)
theorem ml_11 (hx : p.tables.exec = Jvm.exec) (hb : c.code = cc) (hK : va_K (dC, dI) q_cl [(cI, .int), (cZ, .boolean)] s) (hP : va_P (dC, dI) q_cl (wM cI cZ ad z0) H) (hi : vp_in i 6) (hdg : decode cc pc = .ok (.iaload, 1)) (kk : W p l e Rm s m args below meth c H locs 0 0 Q (F0 m (pc + 1) ls (.int (z0.2 11 i.toNatClampNeg) :: rest))) : W p l e Rm s m args below meth c H locs 0 0 Q (F0 m pc ls (.int i :: .ref (ad 12) :: rest)) :=
  va_iald (D := (dC, dI)) hx hb hK hP 12 0 rfl rfl hi hdg kk
theorem ms_11 (hx : p.tables.exec = Jvm.exec) (hb : c.code = cc) (hK : va_K (dC, dI) q_cl [(cI, .int), (cZ, .boolean)] s) (hP : va_P (dC, dI) q_cl (wM cI cZ ad z0) H) (hD : va_D A (wM cI cZ ad z0)) (hS : va_S A H0 H locs) (hi : vp_in i 6) (hdg : decode cc pc = .ok (.iastore, 1)) (es : z1 = stA z0 11 (upd (z0.2 11) i.toNatClampNeg v)) (kk : ∀ (H1 : Heap) (locs1 : List Loc), va_P (dC, dI) q_cl (wM cI cZ ad z1) H1 → va_D A (wM cI cZ ad z1) → va_S A H0 H1 locs1 → W p l e Rm s m args below meth c H1 locs1 0 0 Q (F0 m (pc + 1) ls rest)) : W p l e Rm s m args below meth c H locs 0 0 Q (F0 m pc ls (.int v :: .int i :: .ref (ad 12) :: rest)) := by
  subst es
  exact va_iast (D := (dC, dI)) hx hb hK hP hD hS 12 0 rfl rfl hi hdg (fun H1 locs1 a b d => kk H1 locs1 (a) (b) d)
theorem ml_12 (hx : p.tables.exec = Jvm.exec) (hb : c.code = cc) (hK : va_K (dC, dI) q_cl [(cI, .int), (cZ, .boolean)] s) (hP : va_P (dC, dI) q_cl (wM cI cZ ad z0) H) (hi : vp_in i 6) (hdg : decode cc pc = .ok (.iaload, 1)) (kk : W p l e Rm s m args below meth c H locs 0 0 Q (F0 m (pc + 1) ls (.int (z0.2 12 i.toNatClampNeg) :: rest))) : W p l e Rm s m args below meth c H locs 0 0 Q (F0 m pc ls (.int i :: .ref (ad 13) :: rest)) :=
  va_iald (D := (dC, dI)) hx hb hK hP 13 0 rfl rfl hi hdg kk
theorem ms_12 (hx : p.tables.exec = Jvm.exec) (hb : c.code = cc) (hK : va_K (dC, dI) q_cl [(cI, .int), (cZ, .boolean)] s) (hP : va_P (dC, dI) q_cl (wM cI cZ ad z0) H) (hD : va_D A (wM cI cZ ad z0)) (hS : va_S A H0 H locs) (hi : vp_in i 6) (hdg : decode cc pc = .ok (.iastore, 1)) (es : z1 = stA z0 12 (upd (z0.2 12) i.toNatClampNeg v)) (kk : ∀ (H1 : Heap) (locs1 : List Loc), va_P (dC, dI) q_cl (wM cI cZ ad z1) H1 → va_D A (wM cI cZ ad z1) → va_S A H0 H1 locs1 → W p l e Rm s m args below meth c H1 locs1 0 0 Q (F0 m (pc + 1) ls rest)) : W p l e Rm s m args below meth c H locs 0 0 Q (F0 m pc ls (.int v :: .int i :: .ref (ad 13) :: rest)) := by
  subst es
  exact va_iast (D := (dC, dI)) hx hb hK hP hD hS 13 0 rfl rfl hi hdg (fun H1 locs1 a b d => kk H1 locs1 (a) (b) d)
theorem ml_13 (hx : p.tables.exec = Jvm.exec) (hb : c.code = cc) (hK : va_K (dC, dI) q_cl [(cI, .int), (cZ, .boolean)] s) (hP : va_P (dC, dI) q_cl (wM cI cZ ad z0) H) (hi : vp_in i 6) (hdg : decode cc pc = .ok (.baload, 1)) (kk : W p l e Rm s m args below meth c H locs 0 0 Q (F0 m (pc + 1) ls (.int (z0.2 13 i.toNatClampNeg) :: rest))) : W p l e Rm s m args below meth c H locs 0 0 Q (F0 m pc ls (.int i :: .ref (ad 14) :: rest)) :=
  va_zald (D := (dC, dI)) hx hb hK hP 14 1 rfl rfl hi hdg kk
theorem ms_13 (hx : p.tables.exec = Jvm.exec) (hb : c.code = cc) (hK : va_K (dC, dI) q_cl [(cI, .int), (cZ, .boolean)] s) (hP : va_P (dC, dI) q_cl (wM cI cZ ad z0) H) (hD : va_D A (wM cI cZ ad z0)) (hS : va_S A H0 H locs) (hi : vp_in i 6) (hv : v = 0 ∨ v = 1) (hdg : decode cc pc = .ok (.bastore, 1)) (es : z1 = stA z0 13 (upd (z0.2 13) i.toNatClampNeg v)) (kk : ∀ (H1 : Heap) (locs1 : List Loc), va_P (dC, dI) q_cl (wM cI cZ ad z1) H1 → va_D A (wM cI cZ ad z1) → va_S A H0 H1 locs1 → W p l e Rm s m args below meth c H1 locs1 0 0 Q (F0 m (pc + 1) ls rest)) : W p l e Rm s m args below meth c H locs 0 0 Q (F0 m pc ls (.int v :: .int i :: .ref (ad 14) :: rest)) := by
  subst es
  exact va_zast (D := (dC, dI)) hx hb hK hP hD hS 14 1 rfl rfl hi hdg (fun H1 locs1 a b d => kk H1 locs1 (by rw [vB hv] at a; exact a) (by rw [vB hv] at b; exact b) d)
theorem ml_14 (hx : p.tables.exec = Jvm.exec) (hb : c.code = cc) (hK : va_K (dC, dI) q_cl [(cI, .int), (cZ, .boolean)] s) (hP : va_P (dC, dI) q_cl (wM cI cZ ad z0) H) (hi : vp_in i 8) (hdg : decode cc pc = .ok (.iaload, 1)) (kk : W p l e Rm s m args below meth c H locs 0 0 Q (F0 m (pc + 1) ls (.int (z0.2 14 i.toNatClampNeg) :: rest))) : W p l e Rm s m args below meth c H locs 0 0 Q (F0 m pc ls (.int i :: .ref (ad 15) :: rest)) :=
  va_iald (D := (dC, dI)) hx hb hK hP 15 0 rfl rfl hi hdg kk
theorem ms_14 (hx : p.tables.exec = Jvm.exec) (hb : c.code = cc) (hK : va_K (dC, dI) q_cl [(cI, .int), (cZ, .boolean)] s) (hP : va_P (dC, dI) q_cl (wM cI cZ ad z0) H) (hD : va_D A (wM cI cZ ad z0)) (hS : va_S A H0 H locs) (hi : vp_in i 8) (hdg : decode cc pc = .ok (.iastore, 1)) (es : z1 = stA z0 14 (upd (z0.2 14) i.toNatClampNeg v)) (kk : ∀ (H1 : Heap) (locs1 : List Loc), va_P (dC, dI) q_cl (wM cI cZ ad z1) H1 → va_D A (wM cI cZ ad z1) → va_S A H0 H1 locs1 → W p l e Rm s m args below meth c H1 locs1 0 0 Q (F0 m (pc + 1) ls rest)) : W p l e Rm s m args below meth c H locs 0 0 Q (F0 m pc ls (.int v :: .int i :: .ref (ad 15) :: rest)) := by
  subst es
  exact va_iast (D := (dC, dI)) hx hb hK hP hD hS 15 0 rfl rfl hi hdg (fun H1 locs1 a b d => kk H1 locs1 (a) (b) d)
theorem ml_15 (hx : p.tables.exec = Jvm.exec) (hb : c.code = cc) (hK : va_K (dC, dI) q_cl [(cI, .int), (cZ, .boolean)] s) (hP : va_P (dC, dI) q_cl (wM cI cZ ad z0) H) (hi : vp_in i 32) (hdg : decode cc pc = .ok (.iaload, 1)) (kk : W p l e Rm s m args below meth c H locs 0 0 Q (F0 m (pc + 1) ls (.int (z0.2 15 i.toNatClampNeg) :: rest))) : W p l e Rm s m args below meth c H locs 0 0 Q (F0 m pc ls (.int i :: .ref (ad 16) :: rest)) :=
  va_iald (D := (dC, dI)) hx hb hK hP 16 0 rfl rfl hi hdg kk
theorem ms_15 (hx : p.tables.exec = Jvm.exec) (hb : c.code = cc) (hK : va_K (dC, dI) q_cl [(cI, .int), (cZ, .boolean)] s) (hP : va_P (dC, dI) q_cl (wM cI cZ ad z0) H) (hD : va_D A (wM cI cZ ad z0)) (hS : va_S A H0 H locs) (hi : vp_in i 32) (hdg : decode cc pc = .ok (.iastore, 1)) (es : z1 = stA z0 15 (upd (z0.2 15) i.toNatClampNeg v)) (kk : ∀ (H1 : Heap) (locs1 : List Loc), va_P (dC, dI) q_cl (wM cI cZ ad z1) H1 → va_D A (wM cI cZ ad z1) → va_S A H0 H1 locs1 → W p l e Rm s m args below meth c H1 locs1 0 0 Q (F0 m (pc + 1) ls rest)) : W p l e Rm s m args below meth c H locs 0 0 Q (F0 m pc ls (.int v :: .int i :: .ref (ad 16) :: rest)) := by
  subst es
  exact va_iast (D := (dC, dI)) hx hb hK hP hD hS 16 0 rfl rfl hi hdg (fun H1 locs1 a b d => kk H1 locs1 (a) (b) d)
theorem ml_16 (hx : p.tables.exec = Jvm.exec) (hb : c.code = cc) (hK : va_K (dC, dI) q_cl [(cI, .int), (cZ, .boolean)] s) (hP : va_P (dC, dI) q_cl (wM cI cZ ad z0) H) (hi : vp_in i 128) (hdg : decode cc pc = .ok (.iaload, 1)) (kk : W p l e Rm s m args below meth c H locs 0 0 Q (F0 m (pc + 1) ls (.int (z0.2 16 i.toNatClampNeg) :: rest))) : W p l e Rm s m args below meth c H locs 0 0 Q (F0 m pc ls (.int i :: .ref (ad 17) :: rest)) :=
  va_iald (D := (dC, dI)) hx hb hK hP 17 0 rfl rfl hi hdg kk
theorem ms_16 (hx : p.tables.exec = Jvm.exec) (hb : c.code = cc) (hK : va_K (dC, dI) q_cl [(cI, .int), (cZ, .boolean)] s) (hP : va_P (dC, dI) q_cl (wM cI cZ ad z0) H) (hD : va_D A (wM cI cZ ad z0)) (hS : va_S A H0 H locs) (hi : vp_in i 128) (hdg : decode cc pc = .ok (.iastore, 1)) (es : z1 = stA z0 16 (upd (z0.2 16) i.toNatClampNeg v)) (kk : ∀ (H1 : Heap) (locs1 : List Loc), va_P (dC, dI) q_cl (wM cI cZ ad z1) H1 → va_D A (wM cI cZ ad z1) → va_S A H0 H1 locs1 → W p l e Rm s m args below meth c H1 locs1 0 0 Q (F0 m (pc + 1) ls rest)) : W p l e Rm s m args below meth c H locs 0 0 Q (F0 m pc ls (.int v :: .int i :: .ref (ad 17) :: rest)) := by
  subst es
  exact va_iast (D := (dC, dI)) hx hb hK hP hD hS 17 0 rfl rfl hi hdg (fun H1 locs1 a b d => kk H1 locs1 (a) (b) d)
end ROWSm
end
section
theorem d_SlippedStreams_isRegister_0 : decode b_SlippedStreams_isRegister 0 = .ok (.iload_n 0, 1) := by decide +kernel
theorem d_SlippedStreams_isRegister_1 : decode b_SlippedStreams_isRegister 1 = .ok (.ifCond .lt 13, 3) := by decide +kernel
theorem d_SlippedStreams_isRegister_4 : decode b_SlippedStreams_isRegister 4 = .ok (.iload_n 0, 1) := by decide +kernel
theorem d_SlippedStreams_isRegister_5 : decode b_SlippedStreams_isRegister 5 = .ok (.bipush 8, 2) := by decide +kernel
theorem d_SlippedStreams_isRegister_7 : decode b_SlippedStreams_isRegister 7 = .ok (.if_icmp .ge 7, 3) := by decide +kernel
theorem d_SlippedStreams_isRegister_10 : decode b_SlippedStreams_isRegister 10 = .ok (.iconst 1, 1) := by decide +kernel
theorem d_SlippedStreams_isRegister_11 : decode b_SlippedStreams_isRegister 11 = .ok (.goto 4, 3) := by decide +kernel
theorem d_SlippedStreams_isRegister_14 : decode b_SlippedStreams_isRegister 14 = .ok (.iconst 0, 1) := by decide +kernel
theorem d_SlippedStreams_isRegister_15 : decode b_SlippedStreams_isRegister 15 = .ok (.ireturn, 1) := by decide +kernel
theorem d_Program_isSound_0 : decode b_Program_isSound 0 = .ok (.iload_n 0, 1) := by decide +kernel
theorem d_Program_isSound_1 : decode b_Program_isSound 1 = .ok (.tableswitch 133 0 8 #[51, 56, 56, 56, 83, 83, 103, 103, 51], 51) := by decide +kernel
theorem d_Program_isSound_52 : decode b_Program_isSound 52 = .ok (.iload_n 1, 1) := by decide +kernel
theorem d_Program_isSound_53 : decode b_Program_isSound 53 = .ok (.invokestatic 43, 3) := by decide +kernel
theorem d_Program_isSound_56 : decode b_Program_isSound 56 = .ok (.ireturn, 1) := by decide +kernel
theorem d_Program_isSound_57 : decode b_Program_isSound 57 = .ok (.iload_n 1, 1) := by decide +kernel
theorem d_Program_isSound_58 : decode b_Program_isSound 58 = .ok (.invokestatic 43, 3) := by decide +kernel
theorem d_Program_isSound_61 : decode b_Program_isSound 61 = .ok (.ifCond .eq 21, 3) := by decide +kernel
theorem d_Program_isSound_64 : decode b_Program_isSound 64 = .ok (.iload_n 2, 1) := by decide +kernel
theorem d_Program_isSound_65 : decode b_Program_isSound 65 = .ok (.invokestatic 43, 3) := by decide +kernel
theorem d_Program_isSound_68 : decode b_Program_isSound 68 = .ok (.ifCond .eq 14, 3) := by decide +kernel
theorem d_Program_isSound_71 : decode b_Program_isSound 71 = .ok (.iload_n 3, 1) := by decide +kernel
theorem d_Program_isSound_72 : decode b_Program_isSound 72 = .ok (.invokestatic 43, 3) := by decide +kernel
theorem d_Program_isSound_75 : decode b_Program_isSound 75 = .ok (.ifCond .eq 7, 3) := by decide +kernel
theorem d_Program_isSound_78 : decode b_Program_isSound 78 = .ok (.iconst 1, 1) := by decide +kernel
theorem d_Program_isSound_79 : decode b_Program_isSound 79 = .ok (.goto 4, 3) := by decide +kernel
theorem d_Program_isSound_82 : decode b_Program_isSound 82 = .ok (.iconst 0, 1) := by decide +kernel
theorem d_Program_isSound_83 : decode b_Program_isSound 83 = .ok (.ireturn, 1) := by decide +kernel
theorem d_Program_isSound_84 : decode b_Program_isSound 84 = .ok (.iload_n 1, 1) := by decide +kernel
theorem d_Program_isSound_85 : decode b_Program_isSound 85 = .ok (.invokestatic 43, 3) := by decide +kernel
theorem d_Program_isSound_88 : decode b_Program_isSound 88 = .ok (.ifCond .eq 14, 3) := by decide +kernel
theorem d_Program_isSound_91 : decode b_Program_isSound 91 = .ok (.iload_n 2, 1) := by decide +kernel
theorem d_Program_isSound_92 : decode b_Program_isSound 92 = .ok (.invokestatic 43, 3) := by decide +kernel
theorem d_Program_isSound_95 : decode b_Program_isSound 95 = .ok (.ifCond .eq 7, 3) := by decide +kernel
theorem d_Program_isSound_98 : decode b_Program_isSound 98 = .ok (.iconst 1, 1) := by decide +kernel
theorem d_Program_isSound_99 : decode b_Program_isSound 99 = .ok (.goto 4, 3) := by decide +kernel
theorem d_Program_isSound_102 : decode b_Program_isSound 102 = .ok (.iconst 0, 1) := by decide +kernel
theorem d_Program_isSound_103 : decode b_Program_isSound 103 = .ok (.ireturn, 1) := by decide +kernel
theorem d_Program_isSound_104 : decode b_Program_isSound 104 = .ok (.iload_n 1, 1) := by decide +kernel
theorem d_Program_isSound_105 : decode b_Program_isSound 105 = .ok (.invokestatic 43, 3) := by decide +kernel
theorem d_Program_isSound_108 : decode b_Program_isSound 108 = .ok (.ifCond .eq 24, 3) := by decide +kernel
theorem d_Program_isSound_111 : decode b_Program_isSound 111 = .ok (.iload_n 2, 1) := by decide +kernel
theorem d_Program_isSound_112 : decode b_Program_isSound 112 = .ok (.invokestatic 43, 3) := by decide +kernel
theorem d_Program_isSound_115 : decode b_Program_isSound 115 = .ok (.ifCond .eq 17, 3) := by decide +kernel
theorem d_Program_isSound_118 : decode b_Program_isSound 118 = .ok (.iload_n 3, 1) := by decide +kernel
theorem d_Program_isSound_119 : decode b_Program_isSound 119 = .ok (.ifCond .lt 13, 3) := by decide +kernel
theorem d_Program_isSound_122 : decode b_Program_isSound 122 = .ok (.iload_n 3, 1) := by decide +kernel
theorem d_Program_isSound_123 : decode b_Program_isSound 123 = .ok (.bipush 24, 2) := by decide +kernel
theorem d_Program_isSound_125 : decode b_Program_isSound 125 = .ok (.if_icmp .gt 7, 3) := by decide +kernel
theorem d_Program_isSound_128 : decode b_Program_isSound 128 = .ok (.iconst 1, 1) := by decide +kernel
theorem d_Program_isSound_129 : decode b_Program_isSound 129 = .ok (.goto 4, 3) := by decide +kernel
theorem d_Program_isSound_132 : decode b_Program_isSound 132 = .ok (.iconst 0, 1) := by decide +kernel
theorem d_Program_isSound_133 : decode b_Program_isSound 133 = .ok (.ireturn, 1) := by decide +kernel
theorem d_Program_isSound_134 : decode b_Program_isSound 134 = .ok (.iconst 0, 1) := by decide +kernel
theorem d_Program_isSound_135 : decode b_Program_isSound 135 = .ok (.ireturn, 1) := by decide +kernel
theorem d_Fifo_empty_0 : decode b_Fifo_empty 0 = .ok (.aload_n 0, 1) := by decide +kernel
theorem d_Fifo_empty_1 : decode b_Fifo_empty 1 = .ok (.iconst 0, 1) := by decide +kernel
theorem d_Fifo_empty_2 : decode b_Fifo_empty 2 = .ok (.putfield 13, 3) := by decide +kernel
theorem d_Fifo_empty_5 : decode b_Fifo_empty 5 = .ok (.aload_n 0, 1) := by decide +kernel
theorem d_Fifo_empty_6 : decode b_Fifo_empty 6 = .ok (.iconst 0, 1) := by decide +kernel
theorem d_Fifo_empty_7 : decode b_Fifo_empty 7 = .ok (.putfield 17, 3) := by decide +kernel
theorem d_Fifo_empty_10 : decode b_Fifo_empty 10 = .ok (.return_, 1) := by decide +kernel
theorem d_StoreList_empty_0 : decode b_StoreList_empty 0 = .ok (.aload_n 0, 1) := by decide +kernel
theorem d_StoreList_empty_1 : decode b_StoreList_empty 1 = .ok (.iconst 0, 1) := by decide +kernel
theorem d_StoreList_empty_2 : decode b_StoreList_empty 2 = .ok (.putfield 25, 3) := by decide +kernel
theorem d_StoreList_empty_5 : decode b_StoreList_empty 5 = .ok (.aload_n 0, 1) := by decide +kernel
theorem d_StoreList_empty_6 : decode b_StoreList_empty 6 = .ok (.iconst 0, 1) := by decide +kernel
theorem d_StoreList_empty_7 : decode b_StoreList_empty 7 = .ok (.putfield 29, 3) := by decide +kernel
theorem d_StoreList_empty_10 : decode b_StoreList_empty 10 = .ok (.return_, 1) := by decide +kernel
theorem d_Link_begin_0 : decode b_Link_begin 0 = .ok (.aload_n 1, 1) := by decide +kernel
theorem d_Link_begin_1 : decode b_Link_begin 1 = .ok (.iconst 0, 1) := by decide +kernel
theorem d_Link_begin_2 : decode b_Link_begin 2 = .ok (.aload_n 0, 1) := by decide +kernel
theorem d_Link_begin_3 : decode b_Link_begin 3 = .ok (.getfield 9, 3) := by decide +kernel
theorem d_Link_begin_6 : decode b_Link_begin 6 = .ok (.iconst 0, 1) := by decide +kernel
theorem d_Link_begin_7 : decode b_Link_begin 7 = .ok (.bipush 32, 2) := by decide +kernel
theorem d_Link_begin_9 : decode b_Link_begin 9 = .ok (.invokestatic 45, 3) := by decide +kernel
theorem d_Link_begin_12 : decode b_Link_begin 12 = .ok (.aload_n 0, 1) := by decide +kernel
theorem d_Link_begin_13 : decode b_Link_begin 13 = .ok (.getfield 20, 3) := by decide +kernel
theorem d_Link_begin_16 : decode b_Link_begin 16 = .ok (.invokevirtual 51, 3) := by decide +kernel
theorem d_Link_begin_19 : decode b_Link_begin 19 = .ok (.aload_n 0, 1) := by decide +kernel
theorem d_Link_begin_20 : decode b_Link_begin 20 = .ok (.getfield 24, 3) := by decide +kernel
theorem d_Link_begin_23 : decode b_Link_begin 23 = .ok (.invokevirtual 51, 3) := by decide +kernel
theorem d_Link_begin_26 : decode b_Link_begin 26 = .ok (.aload_n 0, 1) := by decide +kernel
theorem d_Link_begin_27 : decode b_Link_begin 27 = .ok (.getfield 27, 3) := by decide +kernel
theorem d_Link_begin_30 : decode b_Link_begin 30 = .ok (.invokevirtual 51, 3) := by decide +kernel
theorem d_Link_begin_33 : decode b_Link_begin 33 = .ok (.aload_n 0, 1) := by decide +kernel
theorem d_Link_begin_34 : decode b_Link_begin 34 = .ok (.getfield 30, 3) := by decide +kernel
theorem d_Link_begin_37 : decode b_Link_begin 37 = .ok (.invokevirtual 51, 3) := by decide +kernel
theorem d_Link_begin_40 : decode b_Link_begin 40 = .ok (.aload_n 0, 1) := by decide +kernel
theorem d_Link_begin_41 : decode b_Link_begin 41 = .ok (.getfield 33, 3) := by decide +kernel
theorem d_Link_begin_44 : decode b_Link_begin 44 = .ok (.invokevirtual 51, 3) := by decide +kernel
theorem d_Link_begin_47 : decode b_Link_begin 47 = .ok (.aload_n 0, 1) := by decide +kernel
theorem d_Link_begin_48 : decode b_Link_begin 48 = .ok (.getfield 41, 3) := by decide +kernel
theorem d_Link_begin_51 : decode b_Link_begin 51 = .ok (.invokevirtual 54, 3) := by decide +kernel
theorem d_Link_begin_54 : decode b_Link_begin 54 = .ok (.return_, 1) := by decide +kernel
theorem d_StoreList_slot_0 : decode b_StoreList_slot 0 = .ok (.aload_n 0, 1) := by decide +kernel
theorem d_StoreList_slot_1 : decode b_StoreList_slot 1 = .ok (.getfield 25, 3) := by decide +kernel
theorem d_StoreList_slot_4 : decode b_StoreList_slot 4 = .ok (.iload_n 1, 1) := by decide +kernel
theorem d_StoreList_slot_5 : decode b_StoreList_slot 5 = .ok (.iadd, 1) := by decide +kernel
theorem d_StoreList_slot_6 : decode b_StoreList_slot 6 = .ok (.bipush 6, 2) := by decide +kernel
theorem d_StoreList_slot_8 : decode b_StoreList_slot 8 = .ok (.irem, 1) := by decide +kernel
theorem d_StoreList_slot_9 : decode b_StoreList_slot 9 = .ok (.ireturn, 1) := by decide +kernel
theorem d_StoreList_holds_0 : decode b_StoreList_holds 0 = .ok (.iconst 0, 1) := by decide +kernel
theorem d_StoreList_holds_1 : decode b_StoreList_holds 1 = .ok (.istore_n 2, 1) := by decide +kernel
theorem d_StoreList_holds_2 : decode b_StoreList_holds 2 = .ok (.iload_n 2, 1) := by decide +kernel
theorem d_StoreList_holds_3 : decode b_StoreList_holds 3 = .ok (.aload_n 0, 1) := by decide +kernel
theorem d_StoreList_holds_4 : decode b_StoreList_holds 4 = .ok (.getfield 29, 3) := by decide +kernel
theorem d_StoreList_holds_7 : decode b_StoreList_holds 7 = .ok (.if_icmp .ge 25, 3) := by decide +kernel
theorem d_StoreList_holds_10 : decode b_StoreList_holds 10 = .ok (.aload_n 0, 1) := by decide +kernel
theorem d_StoreList_holds_11 : decode b_StoreList_holds 11 = .ok (.getfield 9, 3) := by decide +kernel
theorem d_StoreList_holds_14 : decode b_StoreList_holds 14 = .ok (.aload_n 0, 1) := by decide +kernel
theorem d_StoreList_holds_15 : decode b_StoreList_holds 15 = .ok (.iload_n 2, 1) := by decide +kernel
theorem d_StoreList_holds_16 : decode b_StoreList_holds 16 = .ok (.invokevirtual 32, 3) := by decide +kernel
theorem d_StoreList_holds_19 : decode b_StoreList_holds 19 = .ok (.iaload, 1) := by decide +kernel
theorem d_StoreList_holds_20 : decode b_StoreList_holds 20 = .ok (.iload_n 1, 1) := by decide +kernel
theorem d_StoreList_holds_21 : decode b_StoreList_holds 21 = .ok (.if_icmp .ne 5, 3) := by decide +kernel
theorem d_StoreList_holds_24 : decode b_StoreList_holds 24 = .ok (.iconst 1, 1) := by decide +kernel
theorem d_StoreList_holds_25 : decode b_StoreList_holds 25 = .ok (.ireturn, 1) := by decide +kernel
theorem d_StoreList_holds_26 : decode b_StoreList_holds 26 = .ok (.iinc 2 1, 3) := by decide +kernel
theorem d_StoreList_holds_29 : decode b_StoreList_holds 29 = .ok (.goto (-27), 3) := by decide +kernel
theorem d_StoreList_holds_32 : decode b_StoreList_holds 32 = .ok (.iconst 0, 1) := by decide +kernel
theorem d_StoreList_holds_33 : decode b_StoreList_holds 33 = .ok (.ireturn, 1) := by decide +kernel
theorem d_Fifo_hasRoomFor_0 : decode b_Fifo_hasRoomFor 0 = .ok (.aload_n 0, 1) := by decide +kernel
theorem d_Fifo_hasRoomFor_1 : decode b_Fifo_hasRoomFor 1 = .ok (.getfield 17, 3) := by decide +kernel
theorem d_Fifo_hasRoomFor_4 : decode b_Fifo_hasRoomFor 4 = .ok (.iload_n 1, 1) := by decide +kernel
theorem d_Fifo_hasRoomFor_5 : decode b_Fifo_hasRoomFor 5 = .ok (.iadd, 1) := by decide +kernel
theorem d_Fifo_hasRoomFor_6 : decode b_Fifo_hasRoomFor 6 = .ok (.aload_n 0, 1) := by decide +kernel
theorem d_Fifo_hasRoomFor_7 : decode b_Fifo_hasRoomFor 7 = .ok (.getfield 7, 3) := by decide +kernel
theorem d_Fifo_hasRoomFor_10 : decode b_Fifo_hasRoomFor 10 = .ok (.arraylength, 1) := by decide +kernel
theorem d_Fifo_hasRoomFor_11 : decode b_Fifo_hasRoomFor 11 = .ok (.if_icmp .gt 7, 3) := by decide +kernel
theorem d_Fifo_hasRoomFor_14 : decode b_Fifo_hasRoomFor 14 = .ok (.iconst 1, 1) := by decide +kernel
theorem d_Fifo_hasRoomFor_15 : decode b_Fifo_hasRoomFor 15 = .ok (.goto 4, 3) := by decide +kernel
theorem d_Fifo_hasRoomFor_18 : decode b_Fifo_hasRoomFor 18 = .ok (.iconst 0, 1) := by decide +kernel
theorem d_Fifo_hasRoomFor_19 : decode b_Fifo_hasRoomFor 19 = .ok (.ireturn, 1) := by decide +kernel
theorem d_Fifo_put_0 : decode b_Fifo_put 0 = .ok (.aload_n 0, 1) := by decide +kernel
theorem d_Fifo_put_1 : decode b_Fifo_put 1 = .ok (.getfield 13, 3) := by decide +kernel
theorem d_Fifo_put_4 : decode b_Fifo_put 4 = .ok (.aload_n 0, 1) := by decide +kernel
theorem d_Fifo_put_5 : decode b_Fifo_put 5 = .ok (.getfield 17, 3) := by decide +kernel
theorem d_Fifo_put_8 : decode b_Fifo_put 8 = .ok (.iadd, 1) := by decide +kernel
theorem d_Fifo_put_9 : decode b_Fifo_put 9 = .ok (.istore_n 2, 1) := by decide +kernel
theorem d_Fifo_put_10 : decode b_Fifo_put 10 = .ok (.aload_n 0, 1) := by decide +kernel
theorem d_Fifo_put_11 : decode b_Fifo_put 11 = .ok (.getfield 7, 3) := by decide +kernel
theorem d_Fifo_put_14 : decode b_Fifo_put 14 = .ok (.iload_n 2, 1) := by decide +kernel
theorem d_Fifo_put_15 : decode b_Fifo_put 15 = .ok (.aload_n 0, 1) := by decide +kernel
theorem d_Fifo_put_16 : decode b_Fifo_put 16 = .ok (.getfield 7, 3) := by decide +kernel
theorem d_Fifo_put_19 : decode b_Fifo_put 19 = .ok (.arraylength, 1) := by decide +kernel
theorem d_Fifo_put_20 : decode b_Fifo_put 20 = .ok (.if_icmp .ge 7, 3) := by decide +kernel
theorem d_Fifo_put_23 : decode b_Fifo_put 23 = .ok (.iload_n 2, 1) := by decide +kernel
theorem d_Fifo_put_24 : decode b_Fifo_put 24 = .ok (.goto 10, 3) := by decide +kernel
theorem d_Fifo_put_27 : decode b_Fifo_put 27 = .ok (.iload_n 2, 1) := by decide +kernel
theorem d_Fifo_put_28 : decode b_Fifo_put 28 = .ok (.aload_n 0, 1) := by decide +kernel
theorem d_Fifo_put_29 : decode b_Fifo_put 29 = .ok (.getfield 7, 3) := by decide +kernel
theorem d_Fifo_put_32 : decode b_Fifo_put 32 = .ok (.arraylength, 1) := by decide +kernel
theorem d_Fifo_put_33 : decode b_Fifo_put 33 = .ok (.isub, 1) := by decide +kernel
theorem d_Fifo_put_34 : decode b_Fifo_put 34 = .ok (.iload_n 1, 1) := by decide +kernel
theorem d_Fifo_put_35 : decode b_Fifo_put 35 = .ok (.iastore, 1) := by decide +kernel
theorem d_Fifo_put_36 : decode b_Fifo_put 36 = .ok (.aload_n 0, 1) := by decide +kernel
theorem d_Fifo_put_37 : decode b_Fifo_put 37 = .ok (.dup, 1) := by decide +kernel
theorem d_Fifo_put_38 : decode b_Fifo_put 38 = .ok (.getfield 17, 3) := by decide +kernel
theorem d_Fifo_put_41 : decode b_Fifo_put 41 = .ok (.iconst 1, 1) := by decide +kernel
theorem d_Fifo_put_42 : decode b_Fifo_put 42 = .ok (.iadd, 1) := by decide +kernel
theorem d_Fifo_put_43 : decode b_Fifo_put 43 = .ok (.putfield 17, 3) := by decide +kernel
theorem d_Fifo_put_46 : decode b_Fifo_put 46 = .ok (.return_, 1) := by decide +kernel
theorem d_StoreList_know_0 : decode b_StoreList_know 0 = .ok (.aload_n 0, 1) := by decide +kernel
theorem d_StoreList_know_1 : decode b_StoreList_know 1 = .ok (.getfield 15, 3) := by decide +kernel
theorem d_StoreList_know_4 : decode b_StoreList_know 4 = .ok (.iload_n 1, 1) := by decide +kernel
theorem d_StoreList_know_5 : decode b_StoreList_know 5 = .ok (.iload_n 2, 1) := by decide +kernel
theorem d_StoreList_know_6 : decode b_StoreList_know 6 = .ok (.iastore, 1) := by decide +kernel
theorem d_StoreList_know_7 : decode b_StoreList_know 7 = .ok (.aload_n 0, 1) := by decide +kernel
theorem d_StoreList_know_8 : decode b_StoreList_know 8 = .ok (.getfield 18, 3) := by decide +kernel
theorem d_StoreList_know_11 : decode b_StoreList_know 11 = .ok (.iload_n 1, 1) := by decide +kernel
theorem d_StoreList_know_12 : decode b_StoreList_know 12 = .ok (.iconst 1, 1) := by decide +kernel
theorem d_StoreList_know_13 : decode b_StoreList_know 13 = .ok (.bastore, 1) := by decide +kernel
theorem d_StoreList_know_14 : decode b_StoreList_know 14 = .ok (.aload_n 0, 1) := by decide +kernel
theorem d_StoreList_know_15 : decode b_StoreList_know 15 = .ok (.getfield 29, 3) := by decide +kernel
theorem d_StoreList_know_18 : decode b_StoreList_know 18 = .ok (.ifCond .le 64, 3) := by decide +kernel
theorem d_StoreList_know_21 : decode b_StoreList_know 21 = .ok (.aload_n 0, 1) := by decide +kernel
theorem d_StoreList_know_22 : decode b_StoreList_know 22 = .ok (.getfield 18, 3) := by decide +kernel
theorem d_StoreList_know_25 : decode b_StoreList_know 25 = .ok (.aload_n 0, 1) := by decide +kernel
theorem d_StoreList_know_26 : decode b_StoreList_know 26 = .ok (.getfield 25, 3) := by decide +kernel
theorem d_StoreList_know_29 : decode b_StoreList_know 29 = .ok (.baload, 1) := by decide +kernel
theorem d_StoreList_know_30 : decode b_StoreList_know 30 = .ok (.ifCond .eq 52, 3) := by decide +kernel
theorem d_StoreList_know_33 : decode b_StoreList_know 33 = .ok (.aload_n 0, 1) := by decide +kernel
theorem d_StoreList_know_34 : decode b_StoreList_know 34 = .ok (.getfield 22, 3) := by decide +kernel
theorem d_StoreList_know_37 : decode b_StoreList_know 37 = .ok (.aload_n 0, 1) := by decide +kernel
theorem d_StoreList_know_38 : decode b_StoreList_know 38 = .ok (.getfield 9, 3) := by decide +kernel
theorem d_StoreList_know_41 : decode b_StoreList_know 41 = .ok (.aload_n 0, 1) := by decide +kernel
theorem d_StoreList_know_42 : decode b_StoreList_know 42 = .ok (.getfield 25, 3) := by decide +kernel
theorem d_StoreList_know_45 : decode b_StoreList_know 45 = .ok (.iaload, 1) := by decide +kernel
theorem d_StoreList_know_46 : decode b_StoreList_know 46 = .ok (.aload_n 0, 1) := by decide +kernel
theorem d_StoreList_know_47 : decode b_StoreList_know 47 = .ok (.getfield 15, 3) := by decide +kernel
theorem d_StoreList_know_50 : decode b_StoreList_know 50 = .ok (.aload_n 0, 1) := by decide +kernel
theorem d_StoreList_know_51 : decode b_StoreList_know 51 = .ok (.getfield 25, 3) := by decide +kernel
theorem d_StoreList_know_54 : decode b_StoreList_know 54 = .ok (.iaload, 1) := by decide +kernel
theorem d_StoreList_know_55 : decode b_StoreList_know 55 = .ok (.iastore, 1) := by decide +kernel
theorem d_StoreList_know_56 : decode b_StoreList_know 56 = .ok (.aload_n 0, 1) := by decide +kernel
theorem d_StoreList_know_57 : decode b_StoreList_know 57 = .ok (.aload_n 0, 1) := by decide +kernel
theorem d_StoreList_know_58 : decode b_StoreList_know 58 = .ok (.getfield 25, 3) := by decide +kernel
theorem d_StoreList_know_61 : decode b_StoreList_know 61 = .ok (.iconst 1, 1) := by decide +kernel
theorem d_StoreList_know_62 : decode b_StoreList_know 62 = .ok (.iadd, 1) := by decide +kernel
theorem d_StoreList_know_63 : decode b_StoreList_know 63 = .ok (.bipush 6, 2) := by decide +kernel
theorem d_StoreList_know_65 : decode b_StoreList_know 65 = .ok (.irem, 1) := by decide +kernel
theorem d_StoreList_know_66 : decode b_StoreList_know 66 = .ok (.putfield 25, 3) := by decide +kernel
theorem d_StoreList_know_69 : decode b_StoreList_know 69 = .ok (.aload_n 0, 1) := by decide +kernel
theorem d_StoreList_know_70 : decode b_StoreList_know 70 = .ok (.dup, 1) := by decide +kernel
theorem d_StoreList_know_71 : decode b_StoreList_know 71 = .ok (.getfield 29, 3) := by decide +kernel
theorem d_StoreList_know_74 : decode b_StoreList_know 74 = .ok (.iconst 1, 1) := by decide +kernel
theorem d_StoreList_know_75 : decode b_StoreList_know 75 = .ok (.isub, 1) := by decide +kernel
theorem d_StoreList_know_76 : decode b_StoreList_know 76 = .ok (.putfield 29, 3) := by decide +kernel
theorem d_StoreList_know_79 : decode b_StoreList_know 79 = .ok (.goto (-65), 3) := by decide +kernel
theorem d_StoreList_know_82 : decode b_StoreList_know 82 = .ok (.return_, 1) := by decide +kernel
theorem d_Fifo_take_0 : decode b_Fifo_take 0 = .ok (.aload_n 0, 1) := by decide +kernel
theorem d_Fifo_take_1 : decode b_Fifo_take 1 = .ok (.getfield 7, 3) := by decide +kernel
theorem d_Fifo_take_4 : decode b_Fifo_take 4 = .ok (.aload_n 0, 1) := by decide +kernel
theorem d_Fifo_take_5 : decode b_Fifo_take 5 = .ok (.getfield 13, 3) := by decide +kernel
theorem d_Fifo_take_8 : decode b_Fifo_take 8 = .ok (.iaload, 1) := by decide +kernel
theorem d_Fifo_take_9 : decode b_Fifo_take 9 = .ok (.istore_n 1, 1) := by decide +kernel
theorem d_Fifo_take_10 : decode b_Fifo_take 10 = .ok (.aload_n 0, 1) := by decide +kernel
theorem d_Fifo_take_11 : decode b_Fifo_take 11 = .ok (.aload_n 0, 1) := by decide +kernel
theorem d_Fifo_take_12 : decode b_Fifo_take 12 = .ok (.getfield 13, 3) := by decide +kernel
theorem d_Fifo_take_15 : decode b_Fifo_take 15 = .ok (.iconst 1, 1) := by decide +kernel
theorem d_Fifo_take_16 : decode b_Fifo_take 16 = .ok (.iadd, 1) := by decide +kernel
theorem d_Fifo_take_17 : decode b_Fifo_take 17 = .ok (.aload_n 0, 1) := by decide +kernel
theorem d_Fifo_take_18 : decode b_Fifo_take 18 = .ok (.getfield 7, 3) := by decide +kernel
theorem d_Fifo_take_21 : decode b_Fifo_take 21 = .ok (.arraylength, 1) := by decide +kernel
theorem d_Fifo_take_22 : decode b_Fifo_take 22 = .ok (.if_icmp .ge 12, 3) := by decide +kernel
theorem d_Fifo_take_25 : decode b_Fifo_take 25 = .ok (.aload_n 0, 1) := by decide +kernel
theorem d_Fifo_take_26 : decode b_Fifo_take 26 = .ok (.getfield 13, 3) := by decide +kernel
theorem d_Fifo_take_29 : decode b_Fifo_take 29 = .ok (.iconst 1, 1) := by decide +kernel
theorem d_Fifo_take_30 : decode b_Fifo_take 30 = .ok (.iadd, 1) := by decide +kernel
theorem d_Fifo_take_31 : decode b_Fifo_take 31 = .ok (.goto 4, 3) := by decide +kernel
theorem d_Fifo_take_34 : decode b_Fifo_take 34 = .ok (.iconst 0, 1) := by decide +kernel
theorem d_Fifo_take_35 : decode b_Fifo_take 35 = .ok (.putfield 13, 3) := by decide +kernel
theorem d_Fifo_take_38 : decode b_Fifo_take 38 = .ok (.aload_n 0, 1) := by decide +kernel
theorem d_Fifo_take_39 : decode b_Fifo_take 39 = .ok (.dup, 1) := by decide +kernel
theorem d_Fifo_take_40 : decode b_Fifo_take 40 = .ok (.getfield 17, 3) := by decide +kernel
theorem d_Fifo_take_43 : decode b_Fifo_take 43 = .ok (.iconst 1, 1) := by decide +kernel
theorem d_Fifo_take_44 : decode b_Fifo_take 44 = .ok (.isub, 1) := by decide +kernel
theorem d_Fifo_take_45 : decode b_Fifo_take 45 = .ok (.putfield 17, 3) := by decide +kernel
theorem d_Fifo_take_48 : decode b_Fifo_take 48 = .ok (.iload_n 1, 1) := by decide +kernel
theorem d_Fifo_take_49 : decode b_Fifo_take 49 = .ok (.ireturn, 1) := by decide +kernel
theorem d_Run_position_0 : decode b_Run_position 0 = .ok (.aload_n 0, 1) := by decide +kernel
theorem d_Run_position_1 : decode b_Run_position 1 = .ok (.getfield 23, 3) := by decide +kernel
theorem d_Run_position_4 : decode b_Run_position 4 = .ok (.aload_n 0, 1) := by decide +kernel
theorem d_Run_position_5 : decode b_Run_position 5 = .ok (.getfield 15, 3) := by decide +kernel
theorem d_Run_position_8 : decode b_Run_position 8 = .ok (.getfield 27, 3) := by decide +kernel
theorem d_Run_position_11 : decode b_Run_position 11 = .ok (.invokestatic 32, 3) := by decide +kernel
theorem d_Run_position_14 : decode b_Run_position 14 = .ok (.ireturn, 1) := by decide +kernel
end
section
def x_SlippedStreams_isRegister (z0 : ST) (x1 : Int32) : OR := if x1 < 0 then (gib 0 (some (0, z0))) else (if 8 ≤ x1 then (gib 0 (some (0, z0))) else (gib 1 (some (1, z0))))
set_option maxRecDepth 100000 in
set_option maxHeartbeats 4000000 in
theorem c_x_SlippedStreams_isRegister (l : Launch) (dC : Nat → ClassId) (dI : Nat → Nat → Nat) (cI cZ : ClassId) (ad : Nat → Nat) (z0 : ST) (x1 : Int32) (R : Int32 × ST) (h : x_SlippedStreams_isRegister z0 x1 = some R) : qMi l y_SlippedStreams_isRegister w_SlippedStreams_isRegister 0 0 (KX dC dI cI cZ) (dC, dI) q_cl (wX cI cZ ad) [.int x1] z0 R := by
  intro sz
  refine Met.ofW (cc := b_SlippedStreams_isRegister) (maxL := 1) (ret := (some .boolean)) (by decide) rfl ?_
  intro p e s m args below meth c s₁ B hml hv
  obtain ⟨rfl, hsz, hP, hKK, hD0⟩ := hv
  have hx := B.exec
  have hb := B.bytes
  have hr := B.returns
  have hts : ∀ w ∈ q_big, w.before _ s = true := fun w h => atoms_spec (ws := w_SlippedStreams_isRegister) B.pre w (List.mem_cons_of_mem _ h)
  have hown : s.vm.findClass "SlippedStreams" = some m.cls := findClass_of_methodNamed B.named
  have hlocks := B.notSynchronized
  subst hsz
  have hD := hD0.self (sz := s.heap.size)
  generalize hAe : va_A (wX cI cZ ad z0) s.heap.size = A at hD ⊢
  have hA : ∀ q : Nat, s.heap.size ≤ q → A q := fun q h => by rw [← hAe]; exact Or.inr h
  have hS : va_S A s.heap s.heap [] := va_S.rf
  have hK := hKK.1
  have hl := lv_entry ([.int x1]) (n := 1) (Nat.le_of_ble_eq_true rfl)
  rw [lg_entry_eq]
  generalize (lg_sl ([.int x1]) ++ List.replicate (1 - (lg_sl ([.int x1])).length) Slot.unset).toArray = ls at hl ⊢
  have hl : lv_has ls 1 [(0, .int x1)] := hl
  unfold x_SlippedStreams_isRegister at h
  refine lv_iload_n hx hb d_SlippedStreams_isRegister_0 rfl (lv_at hl 0 rfl) ?_
  refine lv_if_lt (tgt := 14) hx hb d_SlippedStreams_isRegister_1 (by decide) (fun hc => ?_) (fun hc => ?_)
  · replace h := if_t hc h
    refine lv_iconst (v := 0) hx hb d_SlippedStreams_isRegister_14 (by decide) ?_
    exact q_zret hx hb hr hlocks h hP hD hS d_SlippedStreams_isRegister_15
  · replace h := if_f hc h
    refine lv_iload_n hx hb d_SlippedStreams_isRegister_4 rfl (lv_at hl 0 rfl) ?_
    refine lv_bipush (v := 8) hx hb d_SlippedStreams_isRegister_5 (by decide) ?_
    refine lv_icmp_ge (tgt := 14) hx hb d_SlippedStreams_isRegister_7 (by decide) (fun hc => ?_) (fun hc => ?_)
    · replace h := if_t hc h
      refine lv_iconst (v := 0) hx hb d_SlippedStreams_isRegister_14 (by decide) ?_
      exact q_zret hx hb hr hlocks h hP hD hS d_SlippedStreams_isRegister_15
    · replace h := if_f hc h
      refine lv_iconst (v := 1) hx hb d_SlippedStreams_isRegister_10 (by decide) ?_
      refine lv_goto (tgt := 15) hx hb d_SlippedStreams_isRegister_11 (by decide) ?_
      exact q_zret hx hb hr hlocks h hP hD hS d_SlippedStreams_isRegister_15
def x_Program_isSound_104 (z0 : ST) (y1 y2 y3 y4 : Int32) : OR := obn (x_SlippedStreams_isRegister z0 y2) (fun r1 z1 => if r1 = 0 then (gib 0 (some (0, z1))) else (obn (x_SlippedStreams_isRegister z1 y3) (fun r2 z2 => if r2 = 0 then (gib 0 (some (0, z2))) else (if y4 < 0 then (gib 0 (some (0, z2))) else (if 24 < y4 then (gib 0 (some (0, z2))) else (gib 1 (some (1, z2))))))))
def x_Program_isSound_84 (z0 : ST) (y1 y2 y3 y4 : Int32) : OR := obn (x_SlippedStreams_isRegister z0 y2) (fun r3 z3 => if r3 = 0 then (gib 0 (some (0, z3))) else (obn (x_SlippedStreams_isRegister z3 y3) (fun r4 z4 => if r4 = 0 then (gib 0 (some (0, z4))) else (gib 1 (some (1, z4))))))
def x_Program_isSound_57 (z0 : ST) (y1 y2 y3 y4 : Int32) : OR := obn (x_SlippedStreams_isRegister z0 y2) (fun r5 z5 => if r5 = 0 then (gib 0 (some (0, z5))) else (obn (x_SlippedStreams_isRegister z5 y3) (fun r6 z6 => if r6 = 0 then (gib 0 (some (0, z6))) else (obn (x_SlippedStreams_isRegister z6 y4) (fun r7 z7 => if r7 = 0 then (gib 0 (some (0, z7))) else (gib 1 (some (1, z7))))))))
def x_Program_isSound_52 (z0 : ST) (y1 y2 y3 y4 : Int32) : OR := obn (x_SlippedStreams_isRegister z0 y2) (fun r8 z8 => gib r8 (some (r8, z8)))
def x_Program_isSound (z0 : ST) (x1 x2 x3 x4 : Int32) : OR := if x1 = 0 then (x_Program_isSound_52 z0 x1 x2 x3 x4) else (if x1 = 1 then (x_Program_isSound_57 z0 x1 x2 x3 x4) else (if x1 = 2 then (x_Program_isSound_57 z0 x1 x2 x3 x4) else (if x1 = 3 then (x_Program_isSound_57 z0 x1 x2 x3 x4) else (if x1 = 4 then (x_Program_isSound_84 z0 x1 x2 x3 x4) else (if x1 = 5 then (x_Program_isSound_84 z0 x1 x2 x3 x4) else (if x1 = 6 then (x_Program_isSound_104 z0 x1 x2 x3 x4) else (if x1 = 7 then (x_Program_isSound_104 z0 x1 x2 x3 x4) else (if x1 = 8 then (x_Program_isSound_52 z0 x1 x2 x3 x4) else (gib 0 (some (0, z0)))))))))))
set_option maxRecDepth 100000 in
set_option maxHeartbeats 4000000 in
theorem c_x_Program_isSound (l : Launch) (dC : Nat → ClassId) (dI : Nat → Nat → Nat) (cI cZ : ClassId) (ad : Nat → Nat) (z0 : ST) (x1 x2 x3 x4 : Int32) (R : Int32 × ST) (h : x_Program_isSound z0 x1 x2 x3 x4 = some R) : qMi l y_Program_isSound w_Program_isSound 1 20 (KX dC dI cI cZ) (dC, dI) q_cl (wX cI cZ ad) [.int x1, .int x2, .int x3, .int x4] z0 R := by
  intro sz
  refine Met.ofW (cc := b_Program_isSound) (maxL := 4) (ret := (some .boolean)) (by decide) rfl ?_
  intro p e s m args below meth c s₁ B hml hv
  obtain ⟨rfl, hsz, hP, hKK, hD0⟩ := hv
  have hx := B.exec
  have hb := B.bytes
  have hr := B.returns
  have hts : ∀ w ∈ q_big, w.before _ s = true := fun w h => atoms_spec (ws := w_Program_isSound) B.pre w (List.mem_cons_of_mem _ h)
  have hown : s.vm.findClass "SlippedStreams$Program" = some m.cls := findClass_of_methodNamed B.named
  have hlocks := B.notSynchronized
  subst hsz
  have hD := hD0.self (sz := s.heap.size)
  generalize hAe : va_A (wX cI cZ ad z0) s.heap.size = A at hD ⊢
  have hA : ∀ q : Nat, s.heap.size ≤ q → A q := fun q h => by rw [← hAe]; exact Or.inr h
  have hS : va_S A s.heap s.heap [] := va_S.rf
  have hK := hKK.1
  have hl := lv_entry ([.int x1, .int x2, .int x3, .int x4]) (n := 4) (Nat.le_of_ble_eq_true rfl)
  rw [lg_entry_eq]
  generalize (lg_sl ([.int x1, .int x2, .int x3, .int x4]) ++ List.replicate (4 - (lg_sl ([.int x1, .int x2, .int x3, .int x4])).length) Slot.unset).toArray = ls at hl ⊢
  have hl : lv_has ls 4 [(0, .int x1), (1, .int x2), (2, .int x3), (3, .int x4)] := hl
  have k_104 : ∀ (z0 : ST) (y1 y2 y3 y4 : Int32) (H : Heap) (locs : List Loc) (ls : Array Slot), x_Program_isSound_104 z0 y1 y2 y3 y4 = some R → va_P (dC, dI) q_cl (wX cI cZ ad z0) H → va_D A (wX cI cZ ad z0) → va_S A s.heap H locs → lv_has ls 4 [(0, .int y1), (1, .int y2), (2, .int y3), (3, .int y4)] → qWi p l e w_Program_isSound 1 20 s m [.int x1, .int x2, .int x3, .int x4] below meth c (dC, dI) q_cl (wX cI cZ ad) A R H locs (F0 m 104 ls []) := by
    intro z0 y1 y2 y3 y4 H locs ls h hP hD hS hl
    unfold x_Program_isSound_104 at h
    refine lv_iload_n hx hb d_Program_isSound_104 rfl (lv_at hl 1 rfl) ?_
    obtain ⟨r1, z1, hc1, h⟩ := obn_e h
    refine q_goi (va_runSN (As := [.int y2]) (rest := []) ⟨hx, hb, hml, hown, hts⟩ (c_x_SlippedStreams_isRegister l dC dI cI cZ ad z0 y2 _ hc1 _) ⟨va_cnB 1 hts (q_good k_392) rfl rfl rfl hKK.2.1 (hts _ k_53) (by decide +kernel) ⟨Nat.le_of_ble_eq_true rfl, Nat.le_of_ble_eq_true rfl⟩, (hts _ k_391), trivial⟩ (q_preS qok hKK hP hD) rfl rfl hl.1 rfl (lv_room (Nat.le_of_ble_eq_true rfl)) d_Program_isSound_105 ⟨Nat.le_refl _, Nat.le_refl _⟩) hD hS hA (fun H locs hP hD hS => ?_)
    refine lv_if_eq (tgt := 132) hx hb d_Program_isSound_108 (by decide) (fun hc => ?_) (fun hc => ?_)
    · replace h := if_t hc h
      refine lv_iconst (v := 0) hx hb d_Program_isSound_132 (by decide) ?_
      exact q_zret hx hb hr hlocks h hP hD hS d_Program_isSound_133
    · replace h := if_f hc h
      refine lv_iload_n hx hb d_Program_isSound_111 rfl (lv_at hl 2 rfl) ?_
      obtain ⟨r2, z2, hc2, h⟩ := obn_e h
      refine q_goi (va_runSN (As := [.int y3]) (rest := []) ⟨hx, hb, hml, hown, hts⟩ (c_x_SlippedStreams_isRegister l dC dI cI cZ ad z1 y3 _ hc2 _) ⟨va_cnB 1 hts (q_good k_392) rfl rfl rfl hKK.2.1 (hts _ k_53) (by decide +kernel) ⟨Nat.le_of_ble_eq_true rfl, Nat.le_of_ble_eq_true rfl⟩, (hts _ k_391), trivial⟩ (q_preS qok hKK hP hD) rfl rfl hl.1 rfl (lv_room (Nat.le_of_ble_eq_true rfl)) d_Program_isSound_112 ⟨Nat.le_refl _, Nat.le_refl _⟩) hD hS hA (fun H locs hP hD hS => ?_)
      refine lv_if_eq (tgt := 132) hx hb d_Program_isSound_115 (by decide) (fun hc => ?_) (fun hc => ?_)
      · replace h := if_t hc h
        refine lv_iconst (v := 0) hx hb d_Program_isSound_132 (by decide) ?_
        exact q_zret hx hb hr hlocks h hP hD hS d_Program_isSound_133
      · replace h := if_f hc h
        refine lv_iload_n hx hb d_Program_isSound_118 rfl (lv_at hl 3 rfl) ?_
        refine lv_if_lt (tgt := 132) hx hb d_Program_isSound_119 (by decide) (fun hc => ?_) (fun hc => ?_)
        · replace h := if_t hc h
          refine lv_iconst (v := 0) hx hb d_Program_isSound_132 (by decide) ?_
          exact q_zret hx hb hr hlocks h hP hD hS d_Program_isSound_133
        · replace h := if_f hc h
          refine lv_iload_n hx hb d_Program_isSound_122 rfl (lv_at hl 3 rfl) ?_
          refine lv_bipush (v := 24) hx hb d_Program_isSound_123 (by decide) ?_
          refine lv_icmp_gt (tgt := 132) hx hb d_Program_isSound_125 (by decide) (fun hc => ?_) (fun hc => ?_)
          · replace h := if_t hc h
            refine lv_iconst (v := 0) hx hb d_Program_isSound_132 (by decide) ?_
            exact q_zret hx hb hr hlocks h hP hD hS d_Program_isSound_133
          · replace h := if_f hc h
            refine lv_iconst (v := 1) hx hb d_Program_isSound_128 (by decide) ?_
            refine lv_goto (tgt := 133) hx hb d_Program_isSound_129 (by decide) ?_
            exact q_zret hx hb hr hlocks h hP hD hS d_Program_isSound_133
  have k_84 : ∀ (z0 : ST) (y1 y2 y3 y4 : Int32) (H : Heap) (locs : List Loc) (ls : Array Slot), x_Program_isSound_84 z0 y1 y2 y3 y4 = some R → va_P (dC, dI) q_cl (wX cI cZ ad z0) H → va_D A (wX cI cZ ad z0) → va_S A s.heap H locs → lv_has ls 4 [(0, .int y1), (1, .int y2), (2, .int y3), (3, .int y4)] → qWi p l e w_Program_isSound 1 20 s m [.int x1, .int x2, .int x3, .int x4] below meth c (dC, dI) q_cl (wX cI cZ ad) A R H locs (F0 m 84 ls []) := by
    intro z0 y1 y2 y3 y4 H locs ls h hP hD hS hl
    unfold x_Program_isSound_84 at h
    refine lv_iload_n hx hb d_Program_isSound_84 rfl (lv_at hl 1 rfl) ?_
    obtain ⟨r3, z3, hc3, h⟩ := obn_e h
    refine q_goi (va_runSN (As := [.int y2]) (rest := []) ⟨hx, hb, hml, hown, hts⟩ (c_x_SlippedStreams_isRegister l dC dI cI cZ ad z0 y2 _ hc3 _) ⟨va_cnB 1 hts (q_good k_392) rfl rfl rfl hKK.2.1 (hts _ k_53) (by decide +kernel) ⟨Nat.le_of_ble_eq_true rfl, Nat.le_of_ble_eq_true rfl⟩, (hts _ k_391), trivial⟩ (q_preS qok hKK hP hD) rfl rfl hl.1 rfl (lv_room (Nat.le_of_ble_eq_true rfl)) d_Program_isSound_85 ⟨Nat.le_refl _, Nat.le_refl _⟩) hD hS hA (fun H locs hP hD hS => ?_)
    refine lv_if_eq (tgt := 102) hx hb d_Program_isSound_88 (by decide) (fun hc => ?_) (fun hc => ?_)
    · replace h := if_t hc h
      refine lv_iconst (v := 0) hx hb d_Program_isSound_102 (by decide) ?_
      exact q_zret hx hb hr hlocks h hP hD hS d_Program_isSound_103
    · replace h := if_f hc h
      refine lv_iload_n hx hb d_Program_isSound_91 rfl (lv_at hl 2 rfl) ?_
      obtain ⟨r4, z4, hc4, h⟩ := obn_e h
      refine q_goi (va_runSN (As := [.int y3]) (rest := []) ⟨hx, hb, hml, hown, hts⟩ (c_x_SlippedStreams_isRegister l dC dI cI cZ ad z3 y3 _ hc4 _) ⟨va_cnB 1 hts (q_good k_392) rfl rfl rfl hKK.2.1 (hts _ k_53) (by decide +kernel) ⟨Nat.le_of_ble_eq_true rfl, Nat.le_of_ble_eq_true rfl⟩, (hts _ k_391), trivial⟩ (q_preS qok hKK hP hD) rfl rfl hl.1 rfl (lv_room (Nat.le_of_ble_eq_true rfl)) d_Program_isSound_92 ⟨Nat.le_refl _, Nat.le_refl _⟩) hD hS hA (fun H locs hP hD hS => ?_)
      refine lv_if_eq (tgt := 102) hx hb d_Program_isSound_95 (by decide) (fun hc => ?_) (fun hc => ?_)
      · replace h := if_t hc h
        refine lv_iconst (v := 0) hx hb d_Program_isSound_102 (by decide) ?_
        exact q_zret hx hb hr hlocks h hP hD hS d_Program_isSound_103
      · replace h := if_f hc h
        refine lv_iconst (v := 1) hx hb d_Program_isSound_98 (by decide) ?_
        refine lv_goto (tgt := 103) hx hb d_Program_isSound_99 (by decide) ?_
        exact q_zret hx hb hr hlocks h hP hD hS d_Program_isSound_103
  have k_57 : ∀ (z0 : ST) (y1 y2 y3 y4 : Int32) (H : Heap) (locs : List Loc) (ls : Array Slot), x_Program_isSound_57 z0 y1 y2 y3 y4 = some R → va_P (dC, dI) q_cl (wX cI cZ ad z0) H → va_D A (wX cI cZ ad z0) → va_S A s.heap H locs → lv_has ls 4 [(0, .int y1), (1, .int y2), (2, .int y3), (3, .int y4)] → qWi p l e w_Program_isSound 1 20 s m [.int x1, .int x2, .int x3, .int x4] below meth c (dC, dI) q_cl (wX cI cZ ad) A R H locs (F0 m 57 ls []) := by
    intro z0 y1 y2 y3 y4 H locs ls h hP hD hS hl
    unfold x_Program_isSound_57 at h
    refine lv_iload_n hx hb d_Program_isSound_57 rfl (lv_at hl 1 rfl) ?_
    obtain ⟨r5, z5, hc5, h⟩ := obn_e h
    refine q_goi (va_runSN (As := [.int y2]) (rest := []) ⟨hx, hb, hml, hown, hts⟩ (c_x_SlippedStreams_isRegister l dC dI cI cZ ad z0 y2 _ hc5 _) ⟨va_cnB 1 hts (q_good k_392) rfl rfl rfl hKK.2.1 (hts _ k_53) (by decide +kernel) ⟨Nat.le_of_ble_eq_true rfl, Nat.le_of_ble_eq_true rfl⟩, (hts _ k_391), trivial⟩ (q_preS qok hKK hP hD) rfl rfl hl.1 rfl (lv_room (Nat.le_of_ble_eq_true rfl)) d_Program_isSound_58 ⟨Nat.le_refl _, Nat.le_refl _⟩) hD hS hA (fun H locs hP hD hS => ?_)
    refine lv_if_eq (tgt := 82) hx hb d_Program_isSound_61 (by decide) (fun hc => ?_) (fun hc => ?_)
    · replace h := if_t hc h
      refine lv_iconst (v := 0) hx hb d_Program_isSound_82 (by decide) ?_
      exact q_zret hx hb hr hlocks h hP hD hS d_Program_isSound_83
    · replace h := if_f hc h
      refine lv_iload_n hx hb d_Program_isSound_64 rfl (lv_at hl 2 rfl) ?_
      obtain ⟨r6, z6, hc6, h⟩ := obn_e h
      refine q_goi (va_runSN (As := [.int y3]) (rest := []) ⟨hx, hb, hml, hown, hts⟩ (c_x_SlippedStreams_isRegister l dC dI cI cZ ad z5 y3 _ hc6 _) ⟨va_cnB 1 hts (q_good k_392) rfl rfl rfl hKK.2.1 (hts _ k_53) (by decide +kernel) ⟨Nat.le_of_ble_eq_true rfl, Nat.le_of_ble_eq_true rfl⟩, (hts _ k_391), trivial⟩ (q_preS qok hKK hP hD) rfl rfl hl.1 rfl (lv_room (Nat.le_of_ble_eq_true rfl)) d_Program_isSound_65 ⟨Nat.le_refl _, Nat.le_refl _⟩) hD hS hA (fun H locs hP hD hS => ?_)
      refine lv_if_eq (tgt := 82) hx hb d_Program_isSound_68 (by decide) (fun hc => ?_) (fun hc => ?_)
      · replace h := if_t hc h
        refine lv_iconst (v := 0) hx hb d_Program_isSound_82 (by decide) ?_
        exact q_zret hx hb hr hlocks h hP hD hS d_Program_isSound_83
      · replace h := if_f hc h
        refine lv_iload_n hx hb d_Program_isSound_71 rfl (lv_at hl 3 rfl) ?_
        obtain ⟨r7, z7, hc7, h⟩ := obn_e h
        refine q_goi (va_runSN (As := [.int y4]) (rest := []) ⟨hx, hb, hml, hown, hts⟩ (c_x_SlippedStreams_isRegister l dC dI cI cZ ad z6 y4 _ hc7 _) ⟨va_cnB 1 hts (q_good k_392) rfl rfl rfl hKK.2.1 (hts _ k_53) (by decide +kernel) ⟨Nat.le_of_ble_eq_true rfl, Nat.le_of_ble_eq_true rfl⟩, (hts _ k_391), trivial⟩ (q_preS qok hKK hP hD) rfl rfl hl.1 rfl (lv_room (Nat.le_of_ble_eq_true rfl)) d_Program_isSound_72 ⟨Nat.le_refl _, Nat.le_refl _⟩) hD hS hA (fun H locs hP hD hS => ?_)
        refine lv_if_eq (tgt := 82) hx hb d_Program_isSound_75 (by decide) (fun hc => ?_) (fun hc => ?_)
        · replace h := if_t hc h
          refine lv_iconst (v := 0) hx hb d_Program_isSound_82 (by decide) ?_
          exact q_zret hx hb hr hlocks h hP hD hS d_Program_isSound_83
        · replace h := if_f hc h
          refine lv_iconst (v := 1) hx hb d_Program_isSound_78 (by decide) ?_
          refine lv_goto (tgt := 83) hx hb d_Program_isSound_79 (by decide) ?_
          exact q_zret hx hb hr hlocks h hP hD hS d_Program_isSound_83
  have k_52 : ∀ (z0 : ST) (y1 y2 y3 y4 : Int32) (H : Heap) (locs : List Loc) (ls : Array Slot), x_Program_isSound_52 z0 y1 y2 y3 y4 = some R → va_P (dC, dI) q_cl (wX cI cZ ad z0) H → va_D A (wX cI cZ ad z0) → va_S A s.heap H locs → lv_has ls 4 [(0, .int y1), (1, .int y2), (2, .int y3), (3, .int y4)] → qWi p l e w_Program_isSound 1 20 s m [.int x1, .int x2, .int x3, .int x4] below meth c (dC, dI) q_cl (wX cI cZ ad) A R H locs (F0 m 52 ls []) := by
    intro z0 y1 y2 y3 y4 H locs ls h hP hD hS hl
    unfold x_Program_isSound_52 at h
    refine lv_iload_n hx hb d_Program_isSound_52 rfl (lv_at hl 1 rfl) ?_
    obtain ⟨r8, z8, hc8, h⟩ := obn_e h
    refine q_goi (va_runSN (As := [.int y2]) (rest := []) ⟨hx, hb, hml, hown, hts⟩ (c_x_SlippedStreams_isRegister l dC dI cI cZ ad z0 y2 _ hc8 _) ⟨va_cnB 1 hts (q_good k_392) rfl rfl rfl hKK.2.1 (hts _ k_53) (by decide +kernel) ⟨Nat.le_of_ble_eq_true rfl, Nat.le_of_ble_eq_true rfl⟩, (hts _ k_391), trivial⟩ (q_preS qok hKK hP hD) rfl rfl hl.1 rfl (lv_room (Nat.le_of_ble_eq_true rfl)) d_Program_isSound_53 ⟨Nat.le_refl _, Nat.le_refl _⟩) hD hS hA (fun H locs hP hD hS => ?_)
    exact q_zret hx hb hr hlocks h hP hD hS d_Program_isSound_56
  unfold x_Program_isSound at h
  refine lv_iload_n hx hb d_Program_isSound_0 rfl (lv_at hl 0 rfl) ?_
  by_cases hc0 : x1 = 0
  · replace h := if_t hc0 h
    refine lv_tableIn (tgt := 52) (off := 51) hx hb d_Program_isSound_1 (by rw [hc0]; decide) (by rw [hc0]; decide) (by rw [hc0]; rfl) (by decide) ?_
    exact k_52 z0 x1 x2 x3 x4 _ _ _ h hP hD hS (lv_sub hl [0, 1, 2, 3] rfl)
  · replace h := if_f hc0 h
    by_cases hc1 : x1 = 1
    · replace h := if_t hc1 h
      refine lv_tableIn (tgt := 57) (off := 56) hx hb d_Program_isSound_1 (by rw [hc1]; decide) (by rw [hc1]; decide) (by rw [hc1]; rfl) (by decide) ?_
      exact k_57 z0 x1 x2 x3 x4 _ _ _ h hP hD hS (lv_sub hl [0, 1, 2, 3] rfl)
    · replace h := if_f hc1 h
      by_cases hc2 : x1 = 2
      · replace h := if_t hc2 h
        refine lv_tableIn (tgt := 57) (off := 56) hx hb d_Program_isSound_1 (by rw [hc2]; decide) (by rw [hc2]; decide) (by rw [hc2]; rfl) (by decide) ?_
        exact k_57 z0 x1 x2 x3 x4 _ _ _ h hP hD hS (lv_sub hl [0, 1, 2, 3] rfl)
      · replace h := if_f hc2 h
        by_cases hc3 : x1 = 3
        · replace h := if_t hc3 h
          refine lv_tableIn (tgt := 57) (off := 56) hx hb d_Program_isSound_1 (by rw [hc3]; decide) (by rw [hc3]; decide) (by rw [hc3]; rfl) (by decide) ?_
          exact k_57 z0 x1 x2 x3 x4 _ _ _ h hP hD hS (lv_sub hl [0, 1, 2, 3] rfl)
        · replace h := if_f hc3 h
          by_cases hc4 : x1 = 4
          · replace h := if_t hc4 h
            refine lv_tableIn (tgt := 84) (off := 83) hx hb d_Program_isSound_1 (by rw [hc4]; decide) (by rw [hc4]; decide) (by rw [hc4]; rfl) (by decide) ?_
            exact k_84 z0 x1 x2 x3 x4 _ _ _ h hP hD hS (lv_sub hl [0, 1, 2, 3] rfl)
          · replace h := if_f hc4 h
            by_cases hc5 : x1 = 5
            · replace h := if_t hc5 h
              refine lv_tableIn (tgt := 84) (off := 83) hx hb d_Program_isSound_1 (by rw [hc5]; decide) (by rw [hc5]; decide) (by rw [hc5]; rfl) (by decide) ?_
              exact k_84 z0 x1 x2 x3 x4 _ _ _ h hP hD hS (lv_sub hl [0, 1, 2, 3] rfl)
            · replace h := if_f hc5 h
              by_cases hc6 : x1 = 6
              · replace h := if_t hc6 h
                refine lv_tableIn (tgt := 104) (off := 103) hx hb d_Program_isSound_1 (by rw [hc6]; decide) (by rw [hc6]; decide) (by rw [hc6]; rfl) (by decide) ?_
                exact k_104 z0 x1 x2 x3 x4 _ _ _ h hP hD hS (lv_sub hl [0, 1, 2, 3] rfl)
              · replace h := if_f hc6 h
                by_cases hc7 : x1 = 7
                · replace h := if_t hc7 h
                  refine lv_tableIn (tgt := 104) (off := 103) hx hb d_Program_isSound_1 (by rw [hc7]; decide) (by rw [hc7]; decide) (by rw [hc7]; rfl) (by decide) ?_
                  exact k_104 z0 x1 x2 x3 x4 _ _ _ h hP hD hS (lv_sub hl [0, 1, 2, 3] rfl)
                · replace h := if_f hc7 h
                  by_cases hc8 : x1 = 8
                  · replace h := if_t hc8 h
                    refine lv_tableIn (tgt := 52) (off := 51) hx hb d_Program_isSound_1 (by rw [hc8]; decide) (by rw [hc8]; decide) (by rw [hc8]; rfl) (by decide) ?_
                    exact k_52 z0 x1 x2 x3 x4 _ _ _ h hP hD hS (lv_sub hl [0, 1, 2, 3] rfl)
                  · replace h := if_f hc8 h
                    refine lv_tableOut (tgt := 134) hx hb d_Program_isSound_1 (by have g0 := lv_neT hc0 (a := 0) (by decide); have g1 := lv_neT hc1 (a := 1) (by decide); have g2 := lv_neT hc2 (a := 2) (by decide); have g3 := lv_neT hc3 (a := 3) (by decide); have g4 := lv_neT hc4 (a := 4) (by decide); have g5 := lv_neT hc5 (a := 5) (by decide); have g6 := lv_neT hc6 (a := 6) (by decide); have g7 := lv_neT hc7 (a := 7) (by decide); have g8 := lv_neT hc8 (a := 8) (by decide); omega) (by decide) ?_
                    refine lv_iconst (v := 0) hx hb d_Program_isSound_134 (by decide) ?_
                    exact q_zret hx hb hr hlocks h hP hD hS d_Program_isSound_135
def x_Fifo_empty_15 (z0 : ST) : OR := bnd (stI z0 3 0) (fun z1 => bnd (stI z1 4 0) (fun z2 => some (0, z2)))
set_option maxRecDepth 100000 in
set_option maxHeartbeats 4000000 in
theorem c_x_Fifo_empty_15 (l : Launch) (dC : Nat → ClassId) (dI : Nat → Nat → Nat) (cI cZ : ClassId) (ad : Nat → Nat) (z0 : ST) (R : Int32 × ST) (h : x_Fifo_empty_15 z0 = some R) : qMv l y_Fifo_empty w_Fifo_empty 0 0 (KX dC dI cI cZ) (dC, dI) q_cl (wX cI cZ ad) [.ref (ad 15)] z0 R := by
  intro sz
  refine Met.ofW (cc := b_Fifo_empty) (maxL := 1) (ret := none) (by decide) rfl ?_
  intro p e s m args below meth c s₁ B hml hv
  obtain ⟨rfl, hsz, hP, hKK, hD0⟩ := hv
  have hx := B.exec
  have hb := B.bytes
  have hr := B.returns
  have hts : ∀ w ∈ q_big, w.before _ s = true := fun w h => atoms_spec (ws := w_Fifo_empty) B.pre w (List.mem_cons_of_mem _ h)
  have hown : s.vm.findClass "SlippedStreams$Fifo" = some m.cls := findClass_of_methodNamed B.named
  have hlocks := B.notSynchronized
  subst hsz
  have hD := hD0.self (sz := s.heap.size)
  generalize hAe : va_A (wX cI cZ ad z0) s.heap.size = A at hD ⊢
  have hA : ∀ q : Nat, s.heap.size ≤ q → A q := fun q h => by rw [← hAe]; exact Or.inr h
  have hS : va_S A s.heap s.heap [] := va_S.rf
  have hK := hKK.1
  have hl := lv_entry ([.ref (ad 15)]) (n := 1) (Nat.le_of_ble_eq_true rfl)
  rw [lg_entry_eq]
  generalize (lg_sl ([.ref (ad 15)]) ++ List.replicate (1 - (lg_sl ([.ref (ad 15)])).length) Slot.unset).toArray = ls at hl ⊢
  have hl : lv_has ls 1 [(0, .ref (ad 15))] := hl
  unfold x_Fifo_empty_15 at h
  refine lv_aload_n hx hb d_Fifo_empty_0 rfl (lv_at hl 0 rfl) ?_
  refine lv_iconst (v := 0) hx hb d_Fifo_empty_1 (by decide) ?_
  obtain ⟨z1, e1, h⟩ := bnd_e h
  refine xp_15_first hx hb hts hin_Fifo hown hK hP hD hS (hts _ k_160) (fun _ h9 => h9) d_Fifo_empty_2 e1 (fun H locs hP hD hS => ?_)
  refine lv_aload_n hx hb d_Fifo_empty_5 rfl (lv_at hl 0 rfl) ?_
  refine lv_iconst (v := 0) hx hb d_Fifo_empty_6 (by decide) ?_
  obtain ⟨z2, e2, h⟩ := bnd_e h
  refine xp_15_size hx hb hts hin_Fifo hown hK hP hD hS (hts _ k_161) (fun _ h9 => h9) d_Fifo_empty_7 e2 (fun H locs hP hD hS => ?_)
  exact q_vret hx hb hr hlocks h hP hD hS d_Fifo_empty_10
def x_Fifo_empty_16 (z0 : ST) : OR := bnd (stI z0 5 0) (fun z1 => bnd (stI z1 6 0) (fun z2 => some (0, z2)))
set_option maxRecDepth 100000 in
set_option maxHeartbeats 4000000 in
theorem c_x_Fifo_empty_16 (l : Launch) (dC : Nat → ClassId) (dI : Nat → Nat → Nat) (cI cZ : ClassId) (ad : Nat → Nat) (z0 : ST) (R : Int32 × ST) (h : x_Fifo_empty_16 z0 = some R) : qMv l y_Fifo_empty w_Fifo_empty 0 0 (KX dC dI cI cZ) (dC, dI) q_cl (wX cI cZ ad) [.ref (ad 16)] z0 R := by
  intro sz
  refine Met.ofW (cc := b_Fifo_empty) (maxL := 1) (ret := none) (by decide) rfl ?_
  intro p e s m args below meth c s₁ B hml hv
  obtain ⟨rfl, hsz, hP, hKK, hD0⟩ := hv
  have hx := B.exec
  have hb := B.bytes
  have hr := B.returns
  have hts : ∀ w ∈ q_big, w.before _ s = true := fun w h => atoms_spec (ws := w_Fifo_empty) B.pre w (List.mem_cons_of_mem _ h)
  have hown : s.vm.findClass "SlippedStreams$Fifo" = some m.cls := findClass_of_methodNamed B.named
  have hlocks := B.notSynchronized
  subst hsz
  have hD := hD0.self (sz := s.heap.size)
  generalize hAe : va_A (wX cI cZ ad z0) s.heap.size = A at hD ⊢
  have hA : ∀ q : Nat, s.heap.size ≤ q → A q := fun q h => by rw [← hAe]; exact Or.inr h
  have hS : va_S A s.heap s.heap [] := va_S.rf
  have hK := hKK.1
  have hl := lv_entry ([.ref (ad 16)]) (n := 1) (Nat.le_of_ble_eq_true rfl)
  rw [lg_entry_eq]
  generalize (lg_sl ([.ref (ad 16)]) ++ List.replicate (1 - (lg_sl ([.ref (ad 16)])).length) Slot.unset).toArray = ls at hl ⊢
  have hl : lv_has ls 1 [(0, .ref (ad 16))] := hl
  unfold x_Fifo_empty_16 at h
  refine lv_aload_n hx hb d_Fifo_empty_0 rfl (lv_at hl 0 rfl) ?_
  refine lv_iconst (v := 0) hx hb d_Fifo_empty_1 (by decide) ?_
  obtain ⟨z1, e1, h⟩ := bnd_e h
  refine xp_16_first hx hb hts hin_Fifo hown hK hP hD hS (hts _ k_160) (fun _ h9 => h9) d_Fifo_empty_2 e1 (fun H locs hP hD hS => ?_)
  refine lv_aload_n hx hb d_Fifo_empty_5 rfl (lv_at hl 0 rfl) ?_
  refine lv_iconst (v := 0) hx hb d_Fifo_empty_6 (by decide) ?_
  obtain ⟨z2, e2, h⟩ := bnd_e h
  refine xp_16_size hx hb hts hin_Fifo hown hK hP hD hS (hts _ k_161) (fun _ h9 => h9) d_Fifo_empty_7 e2 (fun H locs hP hD hS => ?_)
  exact q_vret hx hb hr hlocks h hP hD hS d_Fifo_empty_10
def x_Fifo_empty_17 (z0 : ST) : OR := bnd (stI z0 7 0) (fun z1 => bnd (stI z1 8 0) (fun z2 => some (0, z2)))
set_option maxRecDepth 100000 in
set_option maxHeartbeats 4000000 in
theorem c_x_Fifo_empty_17 (l : Launch) (dC : Nat → ClassId) (dI : Nat → Nat → Nat) (cI cZ : ClassId) (ad : Nat → Nat) (z0 : ST) (R : Int32 × ST) (h : x_Fifo_empty_17 z0 = some R) : qMv l y_Fifo_empty w_Fifo_empty 0 0 (KX dC dI cI cZ) (dC, dI) q_cl (wX cI cZ ad) [.ref (ad 17)] z0 R := by
  intro sz
  refine Met.ofW (cc := b_Fifo_empty) (maxL := 1) (ret := none) (by decide) rfl ?_
  intro p e s m args below meth c s₁ B hml hv
  obtain ⟨rfl, hsz, hP, hKK, hD0⟩ := hv
  have hx := B.exec
  have hb := B.bytes
  have hr := B.returns
  have hts : ∀ w ∈ q_big, w.before _ s = true := fun w h => atoms_spec (ws := w_Fifo_empty) B.pre w (List.mem_cons_of_mem _ h)
  have hown : s.vm.findClass "SlippedStreams$Fifo" = some m.cls := findClass_of_methodNamed B.named
  have hlocks := B.notSynchronized
  subst hsz
  have hD := hD0.self (sz := s.heap.size)
  generalize hAe : va_A (wX cI cZ ad z0) s.heap.size = A at hD ⊢
  have hA : ∀ q : Nat, s.heap.size ≤ q → A q := fun q h => by rw [← hAe]; exact Or.inr h
  have hS : va_S A s.heap s.heap [] := va_S.rf
  have hK := hKK.1
  have hl := lv_entry ([.ref (ad 17)]) (n := 1) (Nat.le_of_ble_eq_true rfl)
  rw [lg_entry_eq]
  generalize (lg_sl ([.ref (ad 17)]) ++ List.replicate (1 - (lg_sl ([.ref (ad 17)])).length) Slot.unset).toArray = ls at hl ⊢
  have hl : lv_has ls 1 [(0, .ref (ad 17))] := hl
  unfold x_Fifo_empty_17 at h
  refine lv_aload_n hx hb d_Fifo_empty_0 rfl (lv_at hl 0 rfl) ?_
  refine lv_iconst (v := 0) hx hb d_Fifo_empty_1 (by decide) ?_
  obtain ⟨z1, e1, h⟩ := bnd_e h
  refine xp_17_first hx hb hts hin_Fifo hown hK hP hD hS (hts _ k_160) (fun _ h9 => h9) d_Fifo_empty_2 e1 (fun H locs hP hD hS => ?_)
  refine lv_aload_n hx hb d_Fifo_empty_5 rfl (lv_at hl 0 rfl) ?_
  refine lv_iconst (v := 0) hx hb d_Fifo_empty_6 (by decide) ?_
  obtain ⟨z2, e2, h⟩ := bnd_e h
  refine xp_17_size hx hb hts hin_Fifo hown hK hP hD hS (hts _ k_161) (fun _ h9 => h9) d_Fifo_empty_7 e2 (fun H locs hP hD hS => ?_)
  exact q_vret hx hb hr hlocks h hP hD hS d_Fifo_empty_10
def x_Fifo_empty_18 (z0 : ST) : OR := bnd (stI z0 9 0) (fun z1 => bnd (stI z1 10 0) (fun z2 => some (0, z2)))
set_option maxRecDepth 100000 in
set_option maxHeartbeats 4000000 in
theorem c_x_Fifo_empty_18 (l : Launch) (dC : Nat → ClassId) (dI : Nat → Nat → Nat) (cI cZ : ClassId) (ad : Nat → Nat) (z0 : ST) (R : Int32 × ST) (h : x_Fifo_empty_18 z0 = some R) : qMv l y_Fifo_empty w_Fifo_empty 0 0 (KX dC dI cI cZ) (dC, dI) q_cl (wX cI cZ ad) [.ref (ad 18)] z0 R := by
  intro sz
  refine Met.ofW (cc := b_Fifo_empty) (maxL := 1) (ret := none) (by decide) rfl ?_
  intro p e s m args below meth c s₁ B hml hv
  obtain ⟨rfl, hsz, hP, hKK, hD0⟩ := hv
  have hx := B.exec
  have hb := B.bytes
  have hr := B.returns
  have hts : ∀ w ∈ q_big, w.before _ s = true := fun w h => atoms_spec (ws := w_Fifo_empty) B.pre w (List.mem_cons_of_mem _ h)
  have hown : s.vm.findClass "SlippedStreams$Fifo" = some m.cls := findClass_of_methodNamed B.named
  have hlocks := B.notSynchronized
  subst hsz
  have hD := hD0.self (sz := s.heap.size)
  generalize hAe : va_A (wX cI cZ ad z0) s.heap.size = A at hD ⊢
  have hA : ∀ q : Nat, s.heap.size ≤ q → A q := fun q h => by rw [← hAe]; exact Or.inr h
  have hS : va_S A s.heap s.heap [] := va_S.rf
  have hK := hKK.1
  have hl := lv_entry ([.ref (ad 18)]) (n := 1) (Nat.le_of_ble_eq_true rfl)
  rw [lg_entry_eq]
  generalize (lg_sl ([.ref (ad 18)]) ++ List.replicate (1 - (lg_sl ([.ref (ad 18)])).length) Slot.unset).toArray = ls at hl ⊢
  have hl : lv_has ls 1 [(0, .ref (ad 18))] := hl
  unfold x_Fifo_empty_18 at h
  refine lv_aload_n hx hb d_Fifo_empty_0 rfl (lv_at hl 0 rfl) ?_
  refine lv_iconst (v := 0) hx hb d_Fifo_empty_1 (by decide) ?_
  obtain ⟨z1, e1, h⟩ := bnd_e h
  refine xp_18_first hx hb hts hin_Fifo hown hK hP hD hS (hts _ k_160) (fun _ h9 => h9) d_Fifo_empty_2 e1 (fun H locs hP hD hS => ?_)
  refine lv_aload_n hx hb d_Fifo_empty_5 rfl (lv_at hl 0 rfl) ?_
  refine lv_iconst (v := 0) hx hb d_Fifo_empty_6 (by decide) ?_
  obtain ⟨z2, e2, h⟩ := bnd_e h
  refine xp_18_size hx hb hts hin_Fifo hown hK hP hD hS (hts _ k_161) (fun _ h9 => h9) d_Fifo_empty_7 e2 (fun H locs hP hD hS => ?_)
  exact q_vret hx hb hr hlocks h hP hD hS d_Fifo_empty_10
def x_Fifo_empty_19 (z0 : ST) : OR := bnd (stI z0 11 0) (fun z1 => bnd (stI z1 12 0) (fun z2 => some (0, z2)))
set_option maxRecDepth 100000 in
set_option maxHeartbeats 4000000 in
theorem c_x_Fifo_empty_19 (l : Launch) (dC : Nat → ClassId) (dI : Nat → Nat → Nat) (cI cZ : ClassId) (ad : Nat → Nat) (z0 : ST) (R : Int32 × ST) (h : x_Fifo_empty_19 z0 = some R) : qMv l y_Fifo_empty w_Fifo_empty 0 0 (KX dC dI cI cZ) (dC, dI) q_cl (wX cI cZ ad) [.ref (ad 19)] z0 R := by
  intro sz
  refine Met.ofW (cc := b_Fifo_empty) (maxL := 1) (ret := none) (by decide) rfl ?_
  intro p e s m args below meth c s₁ B hml hv
  obtain ⟨rfl, hsz, hP, hKK, hD0⟩ := hv
  have hx := B.exec
  have hb := B.bytes
  have hr := B.returns
  have hts : ∀ w ∈ q_big, w.before _ s = true := fun w h => atoms_spec (ws := w_Fifo_empty) B.pre w (List.mem_cons_of_mem _ h)
  have hown : s.vm.findClass "SlippedStreams$Fifo" = some m.cls := findClass_of_methodNamed B.named
  have hlocks := B.notSynchronized
  subst hsz
  have hD := hD0.self (sz := s.heap.size)
  generalize hAe : va_A (wX cI cZ ad z0) s.heap.size = A at hD ⊢
  have hA : ∀ q : Nat, s.heap.size ≤ q → A q := fun q h => by rw [← hAe]; exact Or.inr h
  have hS : va_S A s.heap s.heap [] := va_S.rf
  have hK := hKK.1
  have hl := lv_entry ([.ref (ad 19)]) (n := 1) (Nat.le_of_ble_eq_true rfl)
  rw [lg_entry_eq]
  generalize (lg_sl ([.ref (ad 19)]) ++ List.replicate (1 - (lg_sl ([.ref (ad 19)])).length) Slot.unset).toArray = ls at hl ⊢
  have hl : lv_has ls 1 [(0, .ref (ad 19))] := hl
  unfold x_Fifo_empty_19 at h
  refine lv_aload_n hx hb d_Fifo_empty_0 rfl (lv_at hl 0 rfl) ?_
  refine lv_iconst (v := 0) hx hb d_Fifo_empty_1 (by decide) ?_
  obtain ⟨z1, e1, h⟩ := bnd_e h
  refine xp_19_first hx hb hts hin_Fifo hown hK hP hD hS (hts _ k_160) (fun _ h9 => h9) d_Fifo_empty_2 e1 (fun H locs hP hD hS => ?_)
  refine lv_aload_n hx hb d_Fifo_empty_5 rfl (lv_at hl 0 rfl) ?_
  refine lv_iconst (v := 0) hx hb d_Fifo_empty_6 (by decide) ?_
  obtain ⟨z2, e2, h⟩ := bnd_e h
  refine xp_19_size hx hb hts hin_Fifo hown hK hP hD hS (hts _ k_161) (fun _ h9 => h9) d_Fifo_empty_7 e2 (fun H locs hP hD hS => ?_)
  exact q_vret hx hb hr hlocks h hP hD hS d_Fifo_empty_10
def x_StoreList_empty_25 (z0 : ST) : OR := bnd (stI z0 13 0) (fun z1 => bnd (stI z1 14 0) (fun z2 => some (0, z2)))
set_option maxRecDepth 100000 in
set_option maxHeartbeats 4000000 in
theorem c_x_StoreList_empty_25 (l : Launch) (dC : Nat → ClassId) (dI : Nat → Nat → Nat) (cI cZ : ClassId) (ad : Nat → Nat) (z0 : ST) (R : Int32 × ST) (h : x_StoreList_empty_25 z0 = some R) : qMv l y_StoreList_empty w_StoreList_empty 0 0 (KX dC dI cI cZ) (dC, dI) q_cl (wX cI cZ ad) [.ref (ad 25)] z0 R := by
  intro sz
  refine Met.ofW (cc := b_StoreList_empty) (maxL := 1) (ret := none) (by decide) rfl ?_
  intro p e s m args below meth c s₁ B hml hv
  obtain ⟨rfl, hsz, hP, hKK, hD0⟩ := hv
  have hx := B.exec
  have hb := B.bytes
  have hr := B.returns
  have hts : ∀ w ∈ q_big, w.before _ s = true := fun w h => atoms_spec (ws := w_StoreList_empty) B.pre w (List.mem_cons_of_mem _ h)
  have hown : s.vm.findClass "SlippedStreams$StoreList" = some m.cls := findClass_of_methodNamed B.named
  have hlocks := B.notSynchronized
  subst hsz
  have hD := hD0.self (sz := s.heap.size)
  generalize hAe : va_A (wX cI cZ ad z0) s.heap.size = A at hD ⊢
  have hA : ∀ q : Nat, s.heap.size ≤ q → A q := fun q h => by rw [← hAe]; exact Or.inr h
  have hS : va_S A s.heap s.heap [] := va_S.rf
  have hK := hKK.1
  have hl := lv_entry ([.ref (ad 25)]) (n := 1) (Nat.le_of_ble_eq_true rfl)
  rw [lg_entry_eq]
  generalize (lg_sl ([.ref (ad 25)]) ++ List.replicate (1 - (lg_sl ([.ref (ad 25)])).length) Slot.unset).toArray = ls at hl ⊢
  have hl : lv_has ls 1 [(0, .ref (ad 25))] := hl
  unfold x_StoreList_empty_25 at h
  refine lv_aload_n hx hb d_StoreList_empty_0 rfl (lv_at hl 0 rfl) ?_
  refine lv_iconst (v := 0) hx hb d_StoreList_empty_1 (by decide) ?_
  obtain ⟨z1, e1, h⟩ := bnd_e h
  refine xp_25_first hx hb hts hin_StoreList hown hK hP hD hS (hts _ k_183) (fun _ h9 => h9) d_StoreList_empty_2 e1 (fun H locs hP hD hS => ?_)
  refine lv_aload_n hx hb d_StoreList_empty_5 rfl (lv_at hl 0 rfl) ?_
  refine lv_iconst (v := 0) hx hb d_StoreList_empty_6 (by decide) ?_
  obtain ⟨z2, e2, h⟩ := bnd_e h
  refine xp_25_size hx hb hts hin_StoreList hown hK hP hD hS (hts _ k_184) (fun _ h9 => h9) d_StoreList_empty_7 e2 (fun H locs hP hD hS => ?_)
  exact q_vret hx hb hr hlocks h hP hD hS d_StoreList_empty_10
def x_Link_begin_13_12 (z0 : ST) : OR := bnd (stA z0 11 (va_cpy (z0.2 10) (z0.2 11) (0 : Int32).toNatClampNeg (0 : Int32).toNatClampNeg (32 : Int32).toNatClampNeg)) (fun z1 => obn (x_Fifo_empty_15 z1) (fun r2 z2 => obn (x_Fifo_empty_16 z2) (fun r3 z3 => obn (x_Fifo_empty_17 z3) (fun r4 z4 => obn (x_Fifo_empty_18 z4) (fun r5 z5 => obn (x_Fifo_empty_19 z5) (fun r6 z6 => obn (x_StoreList_empty_25 z6) (fun r7 z7 => some (0, z7))))))))
set_option maxRecDepth 100000 in
set_option maxHeartbeats 4000000 in
theorem c_x_Link_begin_13_12 (l : Launch) (dC : Nat → ClassId) (dI : Nat → Nat → Nat) (cI cZ : ClassId) (ad : Nat → Nat) (z0 : ST) (R : Int32 × ST) (h : x_Link_begin_13_12 z0 = some R) : qMv l y_Link_begin w_Link_begin 1 40 (KX dC dI cI cZ) (dC, dI) q_cl (wX cI cZ ad) [.ref (ad 13), .ref (ad 12)] z0 R := by
  intro sz
  refine Met.ofW (cc := b_Link_begin) (maxL := 2) (ret := none) (by decide) rfl ?_
  intro p e s m args below meth c s₁ B hml hv
  obtain ⟨rfl, hsz, hP, hKK, hD0⟩ := hv
  have hx := B.exec
  have hb := B.bytes
  have hr := B.returns
  have hts : ∀ w ∈ q_big, w.before _ s = true := fun w h => atoms_spec (ws := w_Link_begin) B.pre w (List.mem_cons_of_mem _ h)
  have hown : s.vm.findClass "SlippedStreams$Link" = some m.cls := findClass_of_methodNamed B.named
  have hlocks := B.notSynchronized
  subst hsz
  have hD := hD0.self (sz := s.heap.size)
  generalize hAe : va_A (wX cI cZ ad z0) s.heap.size = A at hD ⊢
  have hA : ∀ q : Nat, s.heap.size ≤ q → A q := fun q h => by rw [← hAe]; exact Or.inr h
  have hS : va_S A s.heap s.heap [] := va_S.rf
  have hK := hKK.1
  have hl := lv_entry ([.ref (ad 13), .ref (ad 12)]) (n := 2) (Nat.le_of_ble_eq_true rfl)
  rw [lg_entry_eq]
  generalize (lg_sl ([.ref (ad 13), .ref (ad 12)]) ++ List.replicate (2 - (lg_sl ([.ref (ad 13), .ref (ad 12)])).length) Slot.unset).toArray = ls at hl ⊢
  have hl : lv_has ls 2 [(0, .ref (ad 13)), (1, .ref (ad 12))] := hl
  unfold x_Link_begin_13_12 at h
  refine lv_aload_n hx hb d_Link_begin_0 rfl (lv_at hl 1 rfl) ?_
  refine lv_iconst (v := 0) hx hb d_Link_begin_1 (by decide) ?_
  refine lv_aload_n hx hb d_Link_begin_2 rfl (lv_at hl 0 rfl) ?_
  refine xg_13_memory hx hb hts hin_Link hown hK hP (hts _ k_199) (fun _ h9 => h9) d_Link_begin_3 ?_
  refine lv_iconst (v := 0) hx hb d_Link_begin_6 (by decide) ?_
  refine lv_bipush (v := 32) hx hb d_Link_begin_7 (by decide) ?_
  obtain ⟨z1, e1, h⟩ := bnd_e h
  refine va_copyi (ty := .int) hx hb (hml.trans hl.1.symm) hown (hts _ k_445) (hts _ k_447) (hts _ k_446) (hts _ k_65) hK hP hD hS 12 14 0 0 rfl rfl rfl rfl rfl (by decide) (by decide) (by decide) (by decide) (by decide) (fun _ _ => rfl) (Nat.le_of_ble_eq_true rfl) (Nat.le_of_ble_eq_true rfl) d_Link_begin_9 (fun H locs hP hD hS => ?_)
  have hP : va_P (dC, dI) q_cl (wX cI cZ ad z1) H := by rw [e1]; exact hP
  have hD : va_D A (wX cI cZ ad z1) := by rw [e1]; exact hD
  refine lv_aload_n hx hb d_Link_begin_12 rfl (lv_at hl 0 rfl) ?_
  refine xg_13_loads hx hb hts hin_Link hown hK hP (hts _ k_202) (fun _ h9 => h9) d_Link_begin_13 ?_
  obtain ⟨r2, z2, hc2, h⟩ := obn_e h
  refine q_gov (va_runV (As := []) (rest := []) ⟨hx, hb, hml, hown, hts⟩ (c_x_Fifo_empty_15 l dC dI cI cZ ad z1 _ hc2 _) (cwV 0 hts (q_goodL _ (q_l4 k_448 k_449 k_450 k_56) k_451) rfl rfl rfl (by decide +kernel) ⟨Nat.le_of_ble_eq_true rfl, Nat.le_of_ble_eq_true rfl⟩) (q_preV qok hKK hP hD (va_recv (ci := 3) (q0 := 15) hK hP rfl rfl)) rfl rfl hl.1 rfl (lv_room (Nat.le_of_ble_eq_true rfl)) d_Link_begin_16 ⟨Nat.le_refl _, Nat.le_refl _⟩) hD hS hA (fun H locs hP hD hS => ?_)
  refine lv_aload_n hx hb d_Link_begin_19 rfl (lv_at hl 0 rfl) ?_
  refine xg_13_stored hx hb hts hin_Link hown hK hP (hts _ k_206) (fun _ h9 => h9) d_Link_begin_20 ?_
  obtain ⟨r3, z3, hc3, h⟩ := obn_e h
  refine q_gov (va_runV (As := []) (rest := []) ⟨hx, hb, hml, hown, hts⟩ (c_x_Fifo_empty_16 l dC dI cI cZ ad z2 _ hc3 _) (cwV 0 hts (q_goodL _ (q_l4 k_448 k_449 k_450 k_56) k_451) rfl rfl rfl (by decide +kernel) ⟨Nat.le_of_ble_eq_true rfl, Nat.le_of_ble_eq_true rfl⟩) (q_preV qok hKK hP hD (va_recv (ci := 3) (q0 := 16) hK hP rfl rfl)) rfl rfl hl.1 rfl (lv_room (Nat.le_of_ble_eq_true rfl)) d_Link_begin_23 ⟨Nat.le_refl _, Nat.le_refl _⟩) hD hS hA (fun H locs hP hD hS => ?_)
  refine lv_aload_n hx hb d_Link_begin_26 rfl (lv_at hl 0 rfl) ?_
  refine xg_13_valueOutcomes hx hb hts hin_Link hown hK hP (hts _ k_210) (fun _ h9 => h9) d_Link_begin_27 ?_
  obtain ⟨r4, z4, hc4, h⟩ := obn_e h
  refine q_gov (va_runV (As := []) (rest := []) ⟨hx, hb, hml, hown, hts⟩ (c_x_Fifo_empty_17 l dC dI cI cZ ad z3 _ hc4 _) (cwV 0 hts (q_goodL _ (q_l4 k_448 k_449 k_450 k_56) k_451) rfl rfl rfl (by decide +kernel) ⟨Nat.le_of_ble_eq_true rfl, Nat.le_of_ble_eq_true rfl⟩) (q_preV qok hKK hP hD (va_recv (ci := 3) (q0 := 17) hK hP rfl rfl)) rfl rfl hl.1 rfl (lv_room (Nat.le_of_ble_eq_true rfl)) d_Link_begin_30 ⟨Nat.le_refl _, Nat.le_refl _⟩) hD hS hA (fun H locs hP hD hS => ?_)
  refine lv_aload_n hx hb d_Link_begin_33 rfl (lv_at hl 0 rfl) ?_
  refine xg_13_addressOutcomes hx hb hts hin_Link hown hK hP (hts _ k_214) (fun _ h9 => h9) d_Link_begin_34 ?_
  obtain ⟨r5, z5, hc5, h⟩ := obn_e h
  refine q_gov (va_runV (As := []) (rest := []) ⟨hx, hb, hml, hown, hts⟩ (c_x_Fifo_empty_18 l dC dI cI cZ ad z4 _ hc5 _) (cwV 0 hts (q_goodL _ (q_l4 k_448 k_449 k_450 k_56) k_451) rfl rfl rfl (by decide +kernel) ⟨Nat.le_of_ble_eq_true rfl, Nat.le_of_ble_eq_true rfl⟩) (q_preV qok hKK hP hD (va_recv (ci := 3) (q0 := 18) hK hP rfl rfl)) rfl rfl hl.1 rfl (lv_room (Nat.le_of_ble_eq_true rfl)) d_Link_begin_37 ⟨Nat.le_refl _, Nat.le_refl _⟩) hD hS hA (fun H locs hP hD hS => ?_)
  refine lv_aload_n hx hb d_Link_begin_40 rfl (lv_at hl 0 rfl) ?_
  refine xg_13_passed hx hb hts hin_Link hown hK hP (hts _ k_218) (fun _ h9 => h9) d_Link_begin_41 ?_
  obtain ⟨r6, z6, hc6, h⟩ := obn_e h
  refine q_gov (va_runV (As := []) (rest := []) ⟨hx, hb, hml, hown, hts⟩ (c_x_Fifo_empty_19 l dC dI cI cZ ad z5 _ hc6 _) (cwV 0 hts (q_goodL _ (q_l4 k_448 k_449 k_450 k_56) k_451) rfl rfl rfl (by decide +kernel) ⟨Nat.le_of_ble_eq_true rfl, Nat.le_of_ble_eq_true rfl⟩) (q_preV qok hKK hP hD (va_recv (ci := 3) (q0 := 19) hK hP rfl rfl)) rfl rfl hl.1 rfl (lv_room (Nat.le_of_ble_eq_true rfl)) d_Link_begin_44 ⟨Nat.le_refl _, Nat.le_refl _⟩) hD hS hA (fun H locs hP hD hS => ?_)
  refine lv_aload_n hx hb d_Link_begin_47 rfl (lv_at hl 0 rfl) ?_
  refine xg_13_stores hx hb hts hin_Link hown hK hP (hts _ k_222) (fun _ h9 => h9) d_Link_begin_48 ?_
  obtain ⟨r7, z7, hc7, h⟩ := obn_e h
  refine q_gov (va_runV (As := []) (rest := []) ⟨hx, hb, hml, hown, hts⟩ (c_x_StoreList_empty_25 l dC dI cI cZ ad z6 _ hc7 _) (cwV 0 hts (q_goodL _ (q_l4 k_452 k_453 k_454 k_57) k_455) rfl rfl rfl (by decide +kernel) ⟨Nat.le_of_ble_eq_true rfl, Nat.le_of_ble_eq_true rfl⟩) (q_preV qok hKK hP hD (va_recv (ci := 4) (q0 := 25) hK hP rfl rfl)) rfl rfl hl.1 rfl (lv_room (Nat.le_of_ble_eq_true rfl)) d_Link_begin_51 ⟨Nat.le_refl _, Nat.le_refl _⟩) hD hS hA (fun H locs hP hD hS => ?_)
  exact q_vret hx hb hr hlocks h hP hD hS d_Link_begin_54
def x_StoreList_slot_25 (z0 : ST) (x1 : Int32) : OR := some (((z0.1 13) + x1) - ((z0.1 13) + x1) / 6 * 6, z0)
set_option maxRecDepth 100000 in
set_option maxHeartbeats 4000000 in
theorem c_x_StoreList_slot_25 (l : Launch) (dC : Nat → ClassId) (dI : Nat → Nat → Nat) (cI cZ : ClassId) (ad : Nat → Nat) (z0 : ST) (x1 : Int32) (R : Int32 × ST) (h : x_StoreList_slot_25 z0 x1 = some R) : qMi l y_StoreList_slot w_StoreList_slot 0 0 (KX dC dI cI cZ) (dC, dI) q_cl (wX cI cZ ad) [.ref (ad 25), .int x1] z0 R := by
  intro sz
  refine Met.ofW (cc := b_StoreList_slot) (maxL := 2) (ret := (some .int)) (by decide) rfl ?_
  intro p e s m args below meth c s₁ B hml hv
  obtain ⟨rfl, hsz, hP, hKK, hD0⟩ := hv
  have hx := B.exec
  have hb := B.bytes
  have hr := B.returns
  have hts : ∀ w ∈ q_big, w.before _ s = true := fun w h => atoms_spec (ws := w_StoreList_slot) B.pre w (List.mem_cons_of_mem _ h)
  have hown : s.vm.findClass "SlippedStreams$StoreList" = some m.cls := findClass_of_methodNamed B.named
  have hlocks := B.notSynchronized
  subst hsz
  have hD := hD0.self (sz := s.heap.size)
  generalize hAe : va_A (wX cI cZ ad z0) s.heap.size = A at hD ⊢
  have hA : ∀ q : Nat, s.heap.size ≤ q → A q := fun q h => by rw [← hAe]; exact Or.inr h
  have hS : va_S A s.heap s.heap [] := va_S.rf
  have hK := hKK.1
  have hl := lv_entry ([.ref (ad 25), .int x1]) (n := 2) (Nat.le_of_ble_eq_true rfl)
  rw [lg_entry_eq]
  generalize (lg_sl ([.ref (ad 25), .int x1]) ++ List.replicate (2 - (lg_sl ([.ref (ad 25), .int x1])).length) Slot.unset).toArray = ls at hl ⊢
  have hl : lv_has ls 2 [(0, .ref (ad 25)), (1, .int x1)] := hl
  unfold x_StoreList_slot_25 at h
  refine lv_aload_n hx hb d_StoreList_slot_0 rfl (lv_at hl 0 rfl) ?_
  refine xg_25_first hx hb hts hin_StoreList hown hK hP (hts _ k_183) (fun _ h9 => h9) d_StoreList_slot_1 ?_
  refine lv_iload_n hx hb d_StoreList_slot_4 rfl (lv_at hl 1 rfl) ?_
  refine lv_iadd hx hb d_StoreList_slot_5 ?_
  refine lv_bipush (v := 6) hx hb d_StoreList_slot_6 (by decide) ?_
  refine lv_irem hx hb d_StoreList_slot_8 (by decide) ?_
  exact q_iret hx hb hr hlocks h hP hD hS d_StoreList_slot_9
def x_StoreList_holds_25_g0 (k : Nat → ST → Int32 → Int32 → OR) (z0 : ST) (y1 y2 : Int32) : OR := k 1 z0 y1 0
def x_StoreList_holds_25_g2 (k : Nat → ST → Int32 → Int32 → OR) (z0 : ST) (y1 y2 : Int32) : OR := if (z0.1 14) ≤ y2 then (gib 0 (some (0, z0))) else (obn (x_StoreList_slot_25 z0 y2) (fun r1 z1 => gin r1 6 (if (z1.2 17 r1.toNatClampNeg) = y1 then (gib 1 (some (1, z1))) else (k 1 z1 y1 (y2 + 1)))))
def x_StoreList_holds_25_g (k : Nat → ST → Int32 → Int32 → OR) (n : Nat) : ST → Int32 → Int32 → OR := match n with
  | 0 => x_StoreList_holds_25_g0 k
  | 1 => x_StoreList_holds_25_g2 k
  | _ => fun _ _ _ => none
def x_StoreList_holds_25_f : Nat → Nat → ST → Int32 → Int32 → OR
  | 0 => fun _ _ _ _ => none
  | n + 1 => x_StoreList_holds_25_g (x_StoreList_holds_25_f n)
def x_StoreList_holds_25 (z0 : ST) (x1 : Int32) : OR := x_StoreList_holds_25_f 80 0 z0 x1 0
set_option maxRecDepth 100000 in
set_option maxHeartbeats 4000000 in
theorem c_x_StoreList_holds_25 (l : Launch) (dC : Nat → ClassId) (dI : Nat → Nat → Nat) (cI cZ : ClassId) (ad : Nat → Nat) (z0 : ST) (x1 : Int32) (R : Int32 × ST) (h : x_StoreList_holds_25 z0 x1 = some R) : qMi l y_StoreList_holds w_StoreList_holds 1 21 (KX dC dI cI cZ) (dC, dI) q_cl (wX cI cZ ad) [.ref (ad 25), .int x1] z0 R := by
  intro sz
  refine Met.ofW (cc := b_StoreList_holds) (maxL := 3) (ret := (some .boolean)) (by decide) rfl ?_
  intro p e s m args below meth c s₁ B hml hv
  obtain ⟨rfl, hsz, hP, hKK, hD0⟩ := hv
  have hx := B.exec
  have hb := B.bytes
  have hr := B.returns
  have hts : ∀ w ∈ q_big, w.before _ s = true := fun w h => atoms_spec (ws := w_StoreList_holds) B.pre w (List.mem_cons_of_mem _ h)
  have hown : s.vm.findClass "SlippedStreams$StoreList" = some m.cls := findClass_of_methodNamed B.named
  have hlocks := B.notSynchronized
  subst hsz
  have hD := hD0.self (sz := s.heap.size)
  generalize hAe : va_A (wX cI cZ ad z0) s.heap.size = A at hD ⊢
  have hA : ∀ q : Nat, s.heap.size ≤ q → A q := fun q h => by rw [← hAe]; exact Or.inr h
  have hS : va_S A s.heap s.heap [] := va_S.rf
  have hK := hKK.1
  have hl := lv_entry ([.ref (ad 25), .int x1]) (n := 3) (Nat.le_of_ble_eq_true rfl)
  rw [lg_entry_eq]
  generalize (lg_sl ([.ref (ad 25), .int x1]) ++ List.replicate (3 - (lg_sl ([.ref (ad 25), .int x1])).length) Slot.unset).toArray = ls at hl ⊢
  have hl : lv_has ls 3 [(0, .ref (ad 25)), (1, .int x1)] := hl
  have key : ∀ n : Nat, (∀ (z0 : ST) (y1 y2 : Int32) (H : Heap) (locs : List Loc) (ls : Array Slot), x_StoreList_holds_25_f n 0 z0 y1 y2 = some R → va_P (dC, dI) q_cl (wX cI cZ ad z0) H → va_D A (wX cI cZ ad z0) → va_S A s.heap H locs → lv_has ls 3 [(0, .ref (ad 25)), (1, .int y1)] → qWi p l e w_StoreList_holds 1 21 s m [.ref (ad 25), .int x1] below meth c (dC, dI) q_cl (wX cI cZ ad) A R H locs (F0 m 0 ls [])) ∧ (∀ (z0 : ST) (y1 y2 : Int32) (H : Heap) (locs : List Loc) (ls : Array Slot), x_StoreList_holds_25_f n 1 z0 y1 y2 = some R → va_P (dC, dI) q_cl (wX cI cZ ad z0) H → va_D A (wX cI cZ ad z0) → va_S A s.heap H locs → lv_has ls 3 [(0, .ref (ad 25)), (1, .int y1), (2, .int y2)] → qWi p l e w_StoreList_holds 1 21 s m [.ref (ad 25), .int x1] below meth c (dC, dI) q_cl (wX cI cZ ad) A R H locs (F0 m 2 ls [])) := by
    intro n
    induction n with
    | zero => exact ⟨fun z0 y1 y2 H locs ls h hP hD hS hl => (by cases h), fun z0 y1 y2 H locs ls h hP hD hS hl => (by cases h)⟩
    | succ n ih =>
      obtain ⟨k_0, k_2⟩ := ih
      refine ⟨?_, ?_⟩
      · intro z0 y1 y2 H locs ls h hP hD hS hl
        replace h : x_StoreList_holds_25_g0 (x_StoreList_holds_25_f n) z0 y1 y2 = some R := h
        unfold x_StoreList_holds_25_g0 at h
        refine lv_iconst (v := 0) hx hb d_StoreList_holds_0 (by decide) ?_
        refine lv_istore_n (lv' := [(2, .int 0), (0, .ref (ad 25)), (1, .int y1)]) hx hb d_StoreList_holds_1 rfl hl (by decide) rfl (fun ls hl => ?_)
        exact k_2 z0 y1 0 _ _ _ h hP hD hS (lv_sub hl [1, 2, 0] rfl)
      · intro z0 y1 y2 H locs ls h hP hD hS hl
        replace h : x_StoreList_holds_25_g2 (x_StoreList_holds_25_f n) z0 y1 y2 = some R := h
        unfold x_StoreList_holds_25_g2 at h
        refine lv_iload_n hx hb d_StoreList_holds_2 rfl (lv_at hl 2 rfl) ?_
        refine lv_aload_n hx hb d_StoreList_holds_3 rfl (lv_at hl 0 rfl) ?_
        refine xg_25_size hx hb hts hin_StoreList hown hK hP (hts _ k_184) (fun _ h9 => h9) d_StoreList_holds_4 ?_
        refine lv_icmp_ge (tgt := 32) hx hb d_StoreList_holds_7 (by decide) (fun hc => ?_) (fun hc => ?_)
        · replace h := if_t hc h
          refine lv_iconst (v := 0) hx hb d_StoreList_holds_32 (by decide) ?_
          exact q_zret hx hb hr hlocks h hP hD hS d_StoreList_holds_33
        · replace h := if_f hc h
          refine lv_aload_n hx hb d_StoreList_holds_10 rfl (lv_at hl 0 rfl) ?_
          refine xg_25_addresses hx hb hts hin_StoreList hown hK hP (hts _ k_180) (fun _ h9 => h9) d_StoreList_holds_11 ?_
          refine lv_aload_n hx hb d_StoreList_holds_14 rfl (lv_at hl 0 rfl) ?_
          refine lv_iload_n hx hb d_StoreList_holds_15 rfl (lv_at hl 2 rfl) ?_
          obtain ⟨r1, z1, hc1, h⟩ := obn_e h
          refine q_goi (va_runV (As := [.int y2]) (rest := [.ref (ad 26)]) ⟨hx, hb, hml, hown, hts⟩ (c_x_StoreList_slot_25 l dC dI cI cZ ad z0 y2 _ hc1 _) (cwV 1 hts (q_goodL _ (q_l4 k_559 k_561 k_15 k_57) k_562) rfl rfl rfl (by decide +kernel) ⟨Nat.le_of_ble_eq_true rfl, Nat.le_of_ble_eq_true rfl⟩) (q_preV qok hKK hP hD (va_recv (ci := 4) (q0 := 25) hK hP rfl rfl)) rfl rfl hl.1 rfl (lv_room (Nat.le_of_ble_eq_true rfl)) d_StoreList_holds_16 ⟨Nat.le_refl _, Nat.le_refl _⟩) hD hS hA (fun H locs hP hD hS => ?_)
          obtain ⟨hi, h⟩ := gin_e h
          refine xl_17 hx hb hK hP hi d_StoreList_holds_19 ?_
          refine lv_iload_n hx hb d_StoreList_holds_20 rfl (lv_at hl 1 rfl) ?_
          refine lv_icmp_ne (tgt := 26) hx hb d_StoreList_holds_21 (by decide) (fun hc => ?_) (fun hc => ?_)
          · replace h := if_f hc h
            refine lv_iinc (k := 2) (v := y2 + 1) (lv' := [(2, .int (y2 + 1)), (0, .ref (ad 25)), (1, .int y1)]) hx hb d_StoreList_holds_26 hl rfl rfl (by decide) rfl (fun ls hl => ?_)
            refine lv_goto (tgt := 2) hx hb d_StoreList_holds_29 (by decide) ?_
            exact k_2 z1 y1 (y2 + 1) _ _ _ h hP hD hS (lv_sub hl [1, 2, 0] rfl)
          · replace h := if_t hc h
            refine lv_iconst (v := 1) hx hb d_StoreList_holds_24 (by decide) ?_
            exact q_zret hx hb hr hlocks h hP hD hS d_StoreList_holds_25
  exact (key 80).1 z0 x1 0 _ _ _ h hP hD hS (lv_sub hl [0, 1] rfl)
def x_Fifo_hasRoomFor_15 (z0 : ST) (x1 : Int32) : OR := if 4 < ((z0.1 4) + x1) then (gib 0 (some (0, z0))) else (gib 1 (some (1, z0)))
set_option maxRecDepth 100000 in
set_option maxHeartbeats 4000000 in
theorem c_x_Fifo_hasRoomFor_15 (l : Launch) (dC : Nat → ClassId) (dI : Nat → Nat → Nat) (cI cZ : ClassId) (ad : Nat → Nat) (z0 : ST) (x1 : Int32) (R : Int32 × ST) (h : x_Fifo_hasRoomFor_15 z0 x1 = some R) : qMi l y_Fifo_hasRoomFor w_Fifo_hasRoomFor 0 0 (KX dC dI cI cZ) (dC, dI) q_cl (wX cI cZ ad) [.ref (ad 15), .int x1] z0 R := by
  intro sz
  refine Met.ofW (cc := b_Fifo_hasRoomFor) (maxL := 2) (ret := (some .boolean)) (by decide) rfl ?_
  intro p e s m args below meth c s₁ B hml hv
  obtain ⟨rfl, hsz, hP, hKK, hD0⟩ := hv
  have hx := B.exec
  have hb := B.bytes
  have hr := B.returns
  have hts : ∀ w ∈ q_big, w.before _ s = true := fun w h => atoms_spec (ws := w_Fifo_hasRoomFor) B.pre w (List.mem_cons_of_mem _ h)
  have hown : s.vm.findClass "SlippedStreams$Fifo" = some m.cls := findClass_of_methodNamed B.named
  have hlocks := B.notSynchronized
  subst hsz
  have hD := hD0.self (sz := s.heap.size)
  generalize hAe : va_A (wX cI cZ ad z0) s.heap.size = A at hD ⊢
  have hA : ∀ q : Nat, s.heap.size ≤ q → A q := fun q h => by rw [← hAe]; exact Or.inr h
  have hS : va_S A s.heap s.heap [] := va_S.rf
  have hK := hKK.1
  have hl := lv_entry ([.ref (ad 15), .int x1]) (n := 2) (Nat.le_of_ble_eq_true rfl)
  rw [lg_entry_eq]
  generalize (lg_sl ([.ref (ad 15), .int x1]) ++ List.replicate (2 - (lg_sl ([.ref (ad 15), .int x1])).length) Slot.unset).toArray = ls at hl ⊢
  have hl : lv_has ls 2 [(0, .ref (ad 15)), (1, .int x1)] := hl
  unfold x_Fifo_hasRoomFor_15 at h
  refine lv_aload_n hx hb d_Fifo_hasRoomFor_0 rfl (lv_at hl 0 rfl) ?_
  refine xg_15_size hx hb hts hin_Fifo hown hK hP (hts _ k_161) (fun _ h9 => h9) d_Fifo_hasRoomFor_1 ?_
  refine lv_iload_n hx hb d_Fifo_hasRoomFor_4 rfl (lv_at hl 1 rfl) ?_
  refine lv_iadd hx hb d_Fifo_hasRoomFor_5 ?_
  refine lv_aload_n hx hb d_Fifo_hasRoomFor_6 rfl (lv_at hl 0 rfl) ?_
  refine xg_15_things hx hb hts hin_Fifo hown hK hP (hts _ k_159) (fun _ h9 => h9) d_Fifo_hasRoomFor_7 ?_
  refine va_alen (v := 4) hx hb hK hP 20 0 rfl rfl rfl d_Fifo_hasRoomFor_10 ?_
  refine lv_icmp_gt (tgt := 18) hx hb d_Fifo_hasRoomFor_11 (by decide) (fun hc => ?_) (fun hc => ?_)
  · replace h := if_t hc h
    refine lv_iconst (v := 0) hx hb d_Fifo_hasRoomFor_18 (by decide) ?_
    exact q_zret hx hb hr hlocks h hP hD hS d_Fifo_hasRoomFor_19
  · replace h := if_f hc h
    refine lv_iconst (v := 1) hx hb d_Fifo_hasRoomFor_14 (by decide) ?_
    refine lv_goto (tgt := 19) hx hb d_Fifo_hasRoomFor_15 (by decide) ?_
    exact q_zret hx hb hr hlocks h hP hD hS d_Fifo_hasRoomFor_19
def x_Fifo_put_15_34 (z0 : ST) (y1 y2 y3 : Int32) : OR := gin y3 4 (bnd (stA z0 12 (upd (z0.2 12) y3.toNatClampNeg y1)) (fun z1 => bnd (stI z1 4 ((z1.1 4) + 1)) (fun z2 => some (0, z2))))
def x_Fifo_put_15 (z0 : ST) (x1 : Int32) : OR := if 4 ≤ ((z0.1 3) + (z0.1 4)) then (x_Fifo_put_15_34 z0 x1 ((z0.1 3) + (z0.1 4)) (((z0.1 3) + (z0.1 4)) - 4)) else (x_Fifo_put_15_34 z0 x1 ((z0.1 3) + (z0.1 4)) ((z0.1 3) + (z0.1 4)))
set_option maxRecDepth 100000 in
set_option maxHeartbeats 4000000 in
theorem c_x_Fifo_put_15 (l : Launch) (dC : Nat → ClassId) (dI : Nat → Nat → Nat) (cI cZ : ClassId) (ad : Nat → Nat) (z0 : ST) (x1 : Int32) (R : Int32 × ST) (h : x_Fifo_put_15 z0 x1 = some R) : qMv l y_Fifo_put w_Fifo_put 0 0 (KX dC dI cI cZ) (dC, dI) q_cl (wX cI cZ ad) [.ref (ad 15), .int x1] z0 R := by
  intro sz
  refine Met.ofW (cc := b_Fifo_put) (maxL := 3) (ret := none) (by decide) rfl ?_
  intro p e s m args below meth c s₁ B hml hv
  obtain ⟨rfl, hsz, hP, hKK, hD0⟩ := hv
  have hx := B.exec
  have hb := B.bytes
  have hr := B.returns
  have hts : ∀ w ∈ q_big, w.before _ s = true := fun w h => atoms_spec (ws := w_Fifo_put) B.pre w (List.mem_cons_of_mem _ h)
  have hown : s.vm.findClass "SlippedStreams$Fifo" = some m.cls := findClass_of_methodNamed B.named
  have hlocks := B.notSynchronized
  subst hsz
  have hD := hD0.self (sz := s.heap.size)
  generalize hAe : va_A (wX cI cZ ad z0) s.heap.size = A at hD ⊢
  have hA : ∀ q : Nat, s.heap.size ≤ q → A q := fun q h => by rw [← hAe]; exact Or.inr h
  have hS : va_S A s.heap s.heap [] := va_S.rf
  have hK := hKK.1
  have hl := lv_entry ([.ref (ad 15), .int x1]) (n := 3) (Nat.le_of_ble_eq_true rfl)
  rw [lg_entry_eq]
  generalize (lg_sl ([.ref (ad 15), .int x1]) ++ List.replicate (3 - (lg_sl ([.ref (ad 15), .int x1])).length) Slot.unset).toArray = ls at hl ⊢
  have hl : lv_has ls 3 [(0, .ref (ad 15)), (1, .int x1)] := hl
  have k_34 : ∀ (z0 : ST) (y1 y2 y3 : Int32) (H : Heap) (locs : List Loc) (ls : Array Slot), x_Fifo_put_15_34 z0 y1 y2 y3 = some R → va_P (dC, dI) q_cl (wX cI cZ ad z0) H → va_D A (wX cI cZ ad z0) → va_S A s.heap H locs → lv_has ls 3 [(0, .ref (ad 15)), (1, .int y1), (2, .int y2)] → qWv p l e w_Fifo_put 0 0 s m [.ref (ad 15), .int x1] below meth c (dC, dI) q_cl (wX cI cZ ad) A R H locs (F0 m 34 ls [.int y3, .ref (ad 20)]) := by
    intro z0 y1 y2 y3 H locs ls h hP hD hS hl
    unfold x_Fifo_put_15_34 at h
    refine lv_iload_n hx hb d_Fifo_put_34 rfl (lv_at hl 1 rfl) ?_
    obtain ⟨hi, h⟩ := gin_e h
    obtain ⟨z1, e1, h⟩ := bnd_e h
    refine xs_12 hx hb hK hP hD hS hi d_Fifo_put_35 e1 (fun H locs hP hD hS => ?_)
    refine lv_aload_n hx hb d_Fifo_put_36 rfl (lv_at hl 0 rfl) ?_
    refine lv_dup hx hb d_Fifo_put_37 rfl ?_
    refine xg_15_size hx hb hts hin_Fifo hown hK hP (hts _ k_161) (fun _ h9 => h9) d_Fifo_put_38 ?_
    refine lv_iconst (v := 1) hx hb d_Fifo_put_41 (by decide) ?_
    refine lv_iadd hx hb d_Fifo_put_42 ?_
    obtain ⟨z2, e2, h⟩ := bnd_e h
    refine xp_15_size hx hb hts hin_Fifo hown hK hP hD hS (hts _ k_161) (fun _ h9 => h9) d_Fifo_put_43 e2 (fun H locs hP hD hS => ?_)
    exact q_vret hx hb hr hlocks h hP hD hS d_Fifo_put_46
  unfold x_Fifo_put_15 at h
  refine lv_aload_n hx hb d_Fifo_put_0 rfl (lv_at hl 0 rfl) ?_
  refine xg_15_first hx hb hts hin_Fifo hown hK hP (hts _ k_160) (fun _ h9 => h9) d_Fifo_put_1 ?_
  refine lv_aload_n hx hb d_Fifo_put_4 rfl (lv_at hl 0 rfl) ?_
  refine xg_15_size hx hb hts hin_Fifo hown hK hP (hts _ k_161) (fun _ h9 => h9) d_Fifo_put_5 ?_
  refine lv_iadd hx hb d_Fifo_put_8 ?_
  refine lv_istore_n (lv' := [(2, .int ((z0.1 3) + (z0.1 4))), (0, .ref (ad 15)), (1, .int x1)]) hx hb d_Fifo_put_9 rfl hl (by decide) rfl (fun ls hl => ?_)
  refine lv_aload_n hx hb d_Fifo_put_10 rfl (lv_at hl 1 rfl) ?_
  refine xg_15_things hx hb hts hin_Fifo hown hK hP (hts _ k_159) (fun _ h9 => h9) d_Fifo_put_11 ?_
  refine lv_iload_n hx hb d_Fifo_put_14 rfl (lv_at hl 0 rfl) ?_
  refine lv_aload_n hx hb d_Fifo_put_15 rfl (lv_at hl 1 rfl) ?_
  refine xg_15_things hx hb hts hin_Fifo hown hK hP (hts _ k_159) (fun _ h9 => h9) d_Fifo_put_16 ?_
  refine va_alen (v := 4) hx hb hK hP 20 0 rfl rfl rfl d_Fifo_put_19 ?_
  refine lv_icmp_ge (tgt := 27) hx hb d_Fifo_put_20 (by decide) (fun hc => ?_) (fun hc => ?_)
  · replace h := if_t hc h
    refine lv_iload_n hx hb d_Fifo_put_27 rfl (lv_at hl 0 rfl) ?_
    refine lv_aload_n hx hb d_Fifo_put_28 rfl (lv_at hl 1 rfl) ?_
    refine xg_15_things hx hb hts hin_Fifo hown hK hP (hts _ k_159) (fun _ h9 => h9) d_Fifo_put_29 ?_
    refine va_alen (v := 4) hx hb hK hP 20 0 rfl rfl rfl d_Fifo_put_32 ?_
    refine lv_isub hx hb d_Fifo_put_33 ?_
    exact k_34 z0 x1 ((z0.1 3) + (z0.1 4)) (((z0.1 3) + (z0.1 4)) - 4) _ _ _ h hP hD hS (lv_sub hl [1, 2, 0] rfl)
  · replace h := if_f hc h
    refine lv_iload_n hx hb d_Fifo_put_23 rfl (lv_at hl 0 rfl) ?_
    refine lv_goto (tgt := 34) hx hb d_Fifo_put_24 (by decide) ?_
    exact k_34 z0 x1 ((z0.1 3) + (z0.1 4)) ((z0.1 3) + (z0.1 4)) _ _ _ h hP hD hS (lv_sub hl [1, 2, 0] rfl)
def x_StoreList_know_25_g0 (k : Nat → ST → Int32 → Int32 → OR) (z0 : ST) (y1 y2 : Int32) : OR := gin y1 6 (bnd (stA z0 18 (upd (z0.2 18) y1.toNatClampNeg y2)) (fun z1 => gin y1 6 (gib 1 (bnd (stA z1 19 (upd (z1.2 19) y1.toNatClampNeg 1)) (fun z2 => k 1 z2 y1 y2)))))
def x_StoreList_know_25_g14 (k : Nat → ST → Int32 → Int32 → OR) (z0 : ST) (y1 y2 : Int32) : OR := if (z0.1 14) ≤ 0 then (some (0, z0)) else (gin (z0.1 13) 6 (if (z0.2 19 (z0.1 13).toNatClampNeg) = 0 then (some (0, z0)) else (gin (z0.1 13) 6 (gin (z0.1 13) 6 (gin (z0.2 17 (z0.1 13).toNatClampNeg) 32 (bnd (stA z0 11 (upd (z0.2 11) (z0.2 17 (z0.1 13).toNatClampNeg).toNatClampNeg (z0.2 18 (z0.1 13).toNatClampNeg))) (fun z3 => bnd (stI z3 13 (((z3.1 13) + 1) - ((z3.1 13) + 1) / 6 * 6)) (fun z4 => bnd (stI z4 14 ((z4.1 14) - 1)) (fun z5 => k 1 z5 y1 y2)))))))))
def x_StoreList_know_25_g (k : Nat → ST → Int32 → Int32 → OR) (n : Nat) : ST → Int32 → Int32 → OR := match n with
  | 0 => x_StoreList_know_25_g0 k
  | 1 => x_StoreList_know_25_g14 k
  | _ => fun _ _ _ => none
def x_StoreList_know_25_f : Nat → Nat → ST → Int32 → Int32 → OR
  | 0 => fun _ _ _ _ => none
  | n + 1 => x_StoreList_know_25_g (x_StoreList_know_25_f n)
def x_StoreList_know_25 (z0 : ST) (x1 x2 : Int32) : OR := x_StoreList_know_25_f 80 0 z0 x1 x2
set_option maxRecDepth 100000 in
set_option maxHeartbeats 4000000 in
theorem c_x_StoreList_know_25 (l : Launch) (dC : Nat → ClassId) (dI : Nat → Nat → Nat) (cI cZ : ClassId) (ad : Nat → Nat) (z0 : ST) (x1 x2 : Int32) (R : Int32 × ST) (h : x_StoreList_know_25 z0 x1 x2 = some R) : qMv l y_StoreList_know w_StoreList_know 0 0 (KX dC dI cI cZ) (dC, dI) q_cl (wX cI cZ ad) [.ref (ad 25), .int x1, .int x2] z0 R := by
  intro sz
  refine Met.ofW (cc := b_StoreList_know) (maxL := 3) (ret := none) (by decide) rfl ?_
  intro p e s m args below meth c s₁ B hml hv
  obtain ⟨rfl, hsz, hP, hKK, hD0⟩ := hv
  have hx := B.exec
  have hb := B.bytes
  have hr := B.returns
  have hts : ∀ w ∈ q_big, w.before _ s = true := fun w h => atoms_spec (ws := w_StoreList_know) B.pre w (List.mem_cons_of_mem _ h)
  have hown : s.vm.findClass "SlippedStreams$StoreList" = some m.cls := findClass_of_methodNamed B.named
  have hlocks := B.notSynchronized
  subst hsz
  have hD := hD0.self (sz := s.heap.size)
  generalize hAe : va_A (wX cI cZ ad z0) s.heap.size = A at hD ⊢
  have hA : ∀ q : Nat, s.heap.size ≤ q → A q := fun q h => by rw [← hAe]; exact Or.inr h
  have hS : va_S A s.heap s.heap [] := va_S.rf
  have hK := hKK.1
  have hl := lv_entry ([.ref (ad 25), .int x1, .int x2]) (n := 3) (Nat.le_of_ble_eq_true rfl)
  rw [lg_entry_eq]
  generalize (lg_sl ([.ref (ad 25), .int x1, .int x2]) ++ List.replicate (3 - (lg_sl ([.ref (ad 25), .int x1, .int x2])).length) Slot.unset).toArray = ls at hl ⊢
  have hl : lv_has ls 3 [(0, .ref (ad 25)), (1, .int x1), (2, .int x2)] := hl
  have key : ∀ n : Nat, (∀ (z0 : ST) (y1 y2 : Int32) (H : Heap) (locs : List Loc) (ls : Array Slot), x_StoreList_know_25_f n 0 z0 y1 y2 = some R → va_P (dC, dI) q_cl (wX cI cZ ad z0) H → va_D A (wX cI cZ ad z0) → va_S A s.heap H locs → lv_has ls 3 [(0, .ref (ad 25)), (1, .int y1), (2, .int y2)] → qWv p l e w_StoreList_know 0 0 s m [.ref (ad 25), .int x1, .int x2] below meth c (dC, dI) q_cl (wX cI cZ ad) A R H locs (F0 m 0 ls [])) ∧ (∀ (z0 : ST) (y1 y2 : Int32) (H : Heap) (locs : List Loc) (ls : Array Slot), x_StoreList_know_25_f n 1 z0 y1 y2 = some R → va_P (dC, dI) q_cl (wX cI cZ ad z0) H → va_D A (wX cI cZ ad z0) → va_S A s.heap H locs → lv_has ls 3 [(0, .ref (ad 25)), (1, .int y1), (2, .int y2)] → qWv p l e w_StoreList_know 0 0 s m [.ref (ad 25), .int x1, .int x2] below meth c (dC, dI) q_cl (wX cI cZ ad) A R H locs (F0 m 14 ls [])) := by
    intro n
    induction n with
    | zero => exact ⟨fun z0 y1 y2 H locs ls h hP hD hS hl => (by cases h), fun z0 y1 y2 H locs ls h hP hD hS hl => (by cases h)⟩
    | succ n ih =>
      obtain ⟨k_0, k_14⟩ := ih
      refine ⟨?_, ?_⟩
      · intro z0 y1 y2 H locs ls h hP hD hS hl
        replace h : x_StoreList_know_25_g0 (x_StoreList_know_25_f n) z0 y1 y2 = some R := h
        unfold x_StoreList_know_25_g0 at h
        refine lv_aload_n hx hb d_StoreList_know_0 rfl (lv_at hl 0 rfl) ?_
        refine xg_25_values hx hb hts hin_StoreList hown hK hP (hts _ k_181) (fun _ h9 => h9) d_StoreList_know_1 ?_
        refine lv_iload_n hx hb d_StoreList_know_4 rfl (lv_at hl 1 rfl) ?_
        refine lv_iload_n hx hb d_StoreList_know_5 rfl (lv_at hl 2 rfl) ?_
        obtain ⟨hi, h⟩ := gin_e h
        obtain ⟨z1, e1, h⟩ := bnd_e h
        refine xs_18 hx hb hK hP hD hS hi d_StoreList_know_6 e1 (fun H locs hP hD hS => ?_)
        refine lv_aload_n hx hb d_StoreList_know_7 rfl (lv_at hl 0 rfl) ?_
        refine xg_25_known hx hb hts hin_StoreList hown hK hP (hts _ k_182) (fun _ h9 => h9) d_StoreList_know_8 ?_
        refine lv_iload_n hx hb d_StoreList_know_11 rfl (lv_at hl 1 rfl) ?_
        refine lv_iconst (v := 1) hx hb d_StoreList_know_12 (by decide) ?_
        obtain ⟨hi, h⟩ := gin_e h
        obtain ⟨hv, h⟩ := gib_e h
        obtain ⟨z2, e2, h⟩ := bnd_e h
        refine xs_19 hx hb hK hP hD hS hi hv d_StoreList_know_13 e2 (fun H locs hP hD hS => ?_)
        exact k_14 z2 y1 y2 _ _ _ h hP hD hS (lv_sub hl [0, 1, 2] rfl)
      · intro z0 y1 y2 H locs ls h hP hD hS hl
        replace h : x_StoreList_know_25_g14 (x_StoreList_know_25_f n) z0 y1 y2 = some R := h
        unfold x_StoreList_know_25_g14 at h
        refine lv_aload_n hx hb d_StoreList_know_14 rfl (lv_at hl 0 rfl) ?_
        refine xg_25_size hx hb hts hin_StoreList hown hK hP (hts _ k_184) (fun _ h9 => h9) d_StoreList_know_15 ?_
        refine lv_if_le (tgt := 82) hx hb d_StoreList_know_18 (by decide) (fun hc => ?_) (fun hc => ?_)
        · replace h := if_t hc h
          exact q_vret hx hb hr hlocks h hP hD hS d_StoreList_know_82
        · replace h := if_f hc h
          refine lv_aload_n hx hb d_StoreList_know_21 rfl (lv_at hl 0 rfl) ?_
          refine xg_25_known hx hb hts hin_StoreList hown hK hP (hts _ k_182) (fun _ h9 => h9) d_StoreList_know_22 ?_
          refine lv_aload_n hx hb d_StoreList_know_25 rfl (lv_at hl 0 rfl) ?_
          refine xg_25_first hx hb hts hin_StoreList hown hK hP (hts _ k_183) (fun _ h9 => h9) d_StoreList_know_26 ?_
          obtain ⟨hi, h⟩ := gin_e h
          refine xl_19 hx hb hK hP hi d_StoreList_know_29 ?_
          refine lv_if_eq (tgt := 82) hx hb d_StoreList_know_30 (by decide) (fun hc => ?_) (fun hc => ?_)
          · replace h := if_t hc h
            exact q_vret hx hb hr hlocks h hP hD hS d_StoreList_know_82
          · replace h := if_f hc h
            refine lv_aload_n hx hb d_StoreList_know_33 rfl (lv_at hl 0 rfl) ?_
            refine xg_25_memory hx hb hts hin_StoreList hown hK hP (hts _ k_179) (fun _ h9 => h9) d_StoreList_know_34 ?_
            refine lv_aload_n hx hb d_StoreList_know_37 rfl (lv_at hl 0 rfl) ?_
            refine xg_25_addresses hx hb hts hin_StoreList hown hK hP (hts _ k_180) (fun _ h9 => h9) d_StoreList_know_38 ?_
            refine lv_aload_n hx hb d_StoreList_know_41 rfl (lv_at hl 0 rfl) ?_
            refine xg_25_first hx hb hts hin_StoreList hown hK hP (hts _ k_183) (fun _ h9 => h9) d_StoreList_know_42 ?_
            obtain ⟨hi, h⟩ := gin_e h
            refine xl_17 hx hb hK hP hi d_StoreList_know_45 ?_
            refine lv_aload_n hx hb d_StoreList_know_46 rfl (lv_at hl 0 rfl) ?_
            refine xg_25_values hx hb hts hin_StoreList hown hK hP (hts _ k_181) (fun _ h9 => h9) d_StoreList_know_47 ?_
            refine lv_aload_n hx hb d_StoreList_know_50 rfl (lv_at hl 0 rfl) ?_
            refine xg_25_first hx hb hts hin_StoreList hown hK hP (hts _ k_183) (fun _ h9 => h9) d_StoreList_know_51 ?_
            obtain ⟨hi, h⟩ := gin_e h
            refine xl_18 hx hb hK hP hi d_StoreList_know_54 ?_
            obtain ⟨hi, h⟩ := gin_e h
            obtain ⟨z3, e3, h⟩ := bnd_e h
            refine xs_11 hx hb hK hP hD hS hi d_StoreList_know_55 e3 (fun H locs hP hD hS => ?_)
            refine lv_aload_n hx hb d_StoreList_know_56 rfl (lv_at hl 0 rfl) ?_
            refine lv_aload_n hx hb d_StoreList_know_57 rfl (lv_at hl 0 rfl) ?_
            refine xg_25_first hx hb hts hin_StoreList hown hK hP (hts _ k_183) (fun _ h9 => h9) d_StoreList_know_58 ?_
            refine lv_iconst (v := 1) hx hb d_StoreList_know_61 (by decide) ?_
            refine lv_iadd hx hb d_StoreList_know_62 ?_
            refine lv_bipush (v := 6) hx hb d_StoreList_know_63 (by decide) ?_
            refine lv_irem hx hb d_StoreList_know_65 (by decide) ?_
            obtain ⟨z4, e4, h⟩ := bnd_e h
            refine xp_25_first hx hb hts hin_StoreList hown hK hP hD hS (hts _ k_183) (fun _ h9 => h9) d_StoreList_know_66 e4 (fun H locs hP hD hS => ?_)
            refine lv_aload_n hx hb d_StoreList_know_69 rfl (lv_at hl 0 rfl) ?_
            refine lv_dup hx hb d_StoreList_know_70 rfl ?_
            refine xg_25_size hx hb hts hin_StoreList hown hK hP (hts _ k_184) (fun _ h9 => h9) d_StoreList_know_71 ?_
            refine lv_iconst (v := 1) hx hb d_StoreList_know_74 (by decide) ?_
            refine lv_isub hx hb d_StoreList_know_75 ?_
            obtain ⟨z5, e5, h⟩ := bnd_e h
            refine xp_25_size hx hb hts hin_StoreList hown hK hP hD hS (hts _ k_184) (fun _ h9 => h9) d_StoreList_know_76 e5 (fun H locs hP hD hS => ?_)
            refine lv_goto (tgt := 14) hx hb d_StoreList_know_79 (by decide) ?_
            exact k_14 z5 y1 y2 _ _ _ h hP hD hS (lv_sub hl [0, 1, 2] rfl)
  exact (key 80).1 z0 x1 x2 _ _ _ h hP hD hS (lv_sub hl [0, 1, 2] rfl)
def x_Fifo_take_15_35 (z0 : ST) (y1 y2 : Int32) : OR := bnd (stI z0 3 y2) (fun z1 => bnd (stI z1 4 ((z1.1 4) - 1)) (fun z2 => some (y1, z2)))
def x_Fifo_take_15 (z0 : ST) : OR := gin (z0.1 3) 4 (if 4 ≤ ((z0.1 3) + 1) then (x_Fifo_take_15_35 z0 (z0.2 12 (z0.1 3).toNatClampNeg) 0) else (x_Fifo_take_15_35 z0 (z0.2 12 (z0.1 3).toNatClampNeg) ((z0.1 3) + 1)))
set_option maxRecDepth 100000 in
set_option maxHeartbeats 4000000 in
theorem c_x_Fifo_take_15 (l : Launch) (dC : Nat → ClassId) (dI : Nat → Nat → Nat) (cI cZ : ClassId) (ad : Nat → Nat) (z0 : ST) (R : Int32 × ST) (h : x_Fifo_take_15 z0 = some R) : qMi l y_Fifo_take w_Fifo_take 0 0 (KX dC dI cI cZ) (dC, dI) q_cl (wX cI cZ ad) [.ref (ad 15)] z0 R := by
  intro sz
  refine Met.ofW (cc := b_Fifo_take) (maxL := 2) (ret := (some .int)) (by decide) rfl ?_
  intro p e s m args below meth c s₁ B hml hv
  obtain ⟨rfl, hsz, hP, hKK, hD0⟩ := hv
  have hx := B.exec
  have hb := B.bytes
  have hr := B.returns
  have hts : ∀ w ∈ q_big, w.before _ s = true := fun w h => atoms_spec (ws := w_Fifo_take) B.pre w (List.mem_cons_of_mem _ h)
  have hown : s.vm.findClass "SlippedStreams$Fifo" = some m.cls := findClass_of_methodNamed B.named
  have hlocks := B.notSynchronized
  subst hsz
  have hD := hD0.self (sz := s.heap.size)
  generalize hAe : va_A (wX cI cZ ad z0) s.heap.size = A at hD ⊢
  have hA : ∀ q : Nat, s.heap.size ≤ q → A q := fun q h => by rw [← hAe]; exact Or.inr h
  have hS : va_S A s.heap s.heap [] := va_S.rf
  have hK := hKK.1
  have hl := lv_entry ([.ref (ad 15)]) (n := 2) (Nat.le_of_ble_eq_true rfl)
  rw [lg_entry_eq]
  generalize (lg_sl ([.ref (ad 15)]) ++ List.replicate (2 - (lg_sl ([.ref (ad 15)])).length) Slot.unset).toArray = ls at hl ⊢
  have hl : lv_has ls 2 [(0, .ref (ad 15))] := hl
  have k_35 : ∀ (z0 : ST) (y1 y2 : Int32) (H : Heap) (locs : List Loc) (ls : Array Slot), x_Fifo_take_15_35 z0 y1 y2 = some R → va_P (dC, dI) q_cl (wX cI cZ ad z0) H → va_D A (wX cI cZ ad z0) → va_S A s.heap H locs → lv_has ls 2 [(0, .ref (ad 15)), (1, .int y1)] → qWi p l e w_Fifo_take 0 0 s m [.ref (ad 15)] below meth c (dC, dI) q_cl (wX cI cZ ad) A R H locs (F0 m 35 ls [.int y2, .ref (ad 15)]) := by
    intro z0 y1 y2 H locs ls h hP hD hS hl
    unfold x_Fifo_take_15_35 at h
    obtain ⟨z1, e1, h⟩ := bnd_e h
    refine xp_15_first hx hb hts hin_Fifo hown hK hP hD hS (hts _ k_160) (fun _ h9 => h9) d_Fifo_take_35 e1 (fun H locs hP hD hS => ?_)
    refine lv_aload_n hx hb d_Fifo_take_38 rfl (lv_at hl 0 rfl) ?_
    refine lv_dup hx hb d_Fifo_take_39 rfl ?_
    refine xg_15_size hx hb hts hin_Fifo hown hK hP (hts _ k_161) (fun _ h9 => h9) d_Fifo_take_40 ?_
    refine lv_iconst (v := 1) hx hb d_Fifo_take_43 (by decide) ?_
    refine lv_isub hx hb d_Fifo_take_44 ?_
    obtain ⟨z2, e2, h⟩ := bnd_e h
    refine xp_15_size hx hb hts hin_Fifo hown hK hP hD hS (hts _ k_161) (fun _ h9 => h9) d_Fifo_take_45 e2 (fun H locs hP hD hS => ?_)
    refine lv_iload_n hx hb d_Fifo_take_48 rfl (lv_at hl 1 rfl) ?_
    exact q_iret hx hb hr hlocks h hP hD hS d_Fifo_take_49
  unfold x_Fifo_take_15 at h
  refine lv_aload_n hx hb d_Fifo_take_0 rfl (lv_at hl 0 rfl) ?_
  refine xg_15_things hx hb hts hin_Fifo hown hK hP (hts _ k_159) (fun _ h9 => h9) d_Fifo_take_1 ?_
  refine lv_aload_n hx hb d_Fifo_take_4 rfl (lv_at hl 0 rfl) ?_
  refine xg_15_first hx hb hts hin_Fifo hown hK hP (hts _ k_160) (fun _ h9 => h9) d_Fifo_take_5 ?_
  obtain ⟨hi, h⟩ := gin_e h
  refine xl_12 hx hb hK hP hi d_Fifo_take_8 ?_
  refine lv_istore_n (lv' := [(1, .int (z0.2 12 (z0.1 3).toNatClampNeg)), (0, .ref (ad 15))]) hx hb d_Fifo_take_9 rfl hl (by decide) rfl (fun ls hl => ?_)
  refine lv_aload_n hx hb d_Fifo_take_10 rfl (lv_at hl 1 rfl) ?_
  refine lv_aload_n hx hb d_Fifo_take_11 rfl (lv_at hl 1 rfl) ?_
  refine xg_15_first hx hb hts hin_Fifo hown hK hP (hts _ k_160) (fun _ h9 => h9) d_Fifo_take_12 ?_
  refine lv_iconst (v := 1) hx hb d_Fifo_take_15 (by decide) ?_
  refine lv_iadd hx hb d_Fifo_take_16 ?_
  refine lv_aload_n hx hb d_Fifo_take_17 rfl (lv_at hl 1 rfl) ?_
  refine xg_15_things hx hb hts hin_Fifo hown hK hP (hts _ k_159) (fun _ h9 => h9) d_Fifo_take_18 ?_
  refine va_alen (v := 4) hx hb hK hP 20 0 rfl rfl rfl d_Fifo_take_21 ?_
  refine lv_icmp_ge (tgt := 34) hx hb d_Fifo_take_22 (by decide) (fun hc => ?_) (fun hc => ?_)
  · replace h := if_t hc h
    refine lv_iconst (v := 0) hx hb d_Fifo_take_34 (by decide) ?_
    exact k_35 z0 (z0.2 12 (z0.1 3).toNatClampNeg) 0 _ _ _ h hP hD hS (lv_sub hl [1, 0] rfl)
  · replace h := if_f hc h
    refine lv_aload_n hx hb d_Fifo_take_25 rfl (lv_at hl 1 rfl) ?_
    refine xg_15_first hx hb hts hin_Fifo hown hK hP (hts _ k_160) (fun _ h9 => h9) d_Fifo_take_26 ?_
    refine lv_iconst (v := 1) hx hb d_Fifo_take_29 (by decide) ?_
    refine lv_iadd hx hb d_Fifo_take_30 ?_
    refine lv_goto (tgt := 35) hx hb d_Fifo_take_31 (by decide) ?_
    exact k_35 z0 (z0.2 12 (z0.1 3).toNatClampNeg) ((z0.1 3) + 1) _ _ _ h hP hD hS (lv_sub hl [1, 0] rfl)
def x_Run_position_29 (z0 : ST) : OR := some (if (z0.1 1) < (z0.1 15) then z0.1 1 else z0.1 15, z0)
set_option maxRecDepth 100000 in
set_option maxHeartbeats 4000000 in
theorem c_x_Run_position_29 (l : Launch) (dC : Nat → ClassId) (dI : Nat → Nat → Nat) (cI cZ : ClassId) (ad : Nat → Nat) (z0 : ST) (R : Int32 × ST) (h : x_Run_position_29 z0 = some R) : qMi l y_Run_position w_Run_position 1 21 (KX dC dI cI cZ) (dC, dI) q_cl (wX cI cZ ad) [.ref (ad 29)] z0 R := by
  intro sz
  refine Met.ofW (cc := b_Run_position) (maxL := 1) (ret := (some .int)) (by decide) rfl ?_
  intro p e s m args below meth c s₁ B hml hv
  obtain ⟨rfl, hsz, hP, hKK, hD0⟩ := hv
  have hx := B.exec
  have hb := B.bytes
  have hr := B.returns
  have hts : ∀ w ∈ q_big, w.before _ s = true := fun w h => atoms_spec (ws := w_Run_position) B.pre w (List.mem_cons_of_mem _ h)
  have hown : s.vm.findClass "SlippedStreams$Run" = some m.cls := findClass_of_methodNamed B.named
  have hlocks := B.notSynchronized
  subst hsz
  have hD := hD0.self (sz := s.heap.size)
  generalize hAe : va_A (wX cI cZ ad z0) s.heap.size = A at hD ⊢
  have hA : ∀ q : Nat, s.heap.size ≤ q → A q := fun q h => by rw [← hAe]; exact Or.inr h
  have hS : va_S A s.heap s.heap [] := va_S.rf
  have hK := hKK.1
  have hl := lv_entry ([.ref (ad 29)]) (n := 1) (Nat.le_of_ble_eq_true rfl)
  rw [lg_entry_eq]
  generalize (lg_sl ([.ref (ad 29)]) ++ List.replicate (1 - (lg_sl ([.ref (ad 29)])).length) Slot.unset).toArray = ls at hl ⊢
  have hl : lv_has ls 1 [(0, .ref (ad 29))] := hl
  unfold x_Run_position_29 at h
  refine lv_aload_n hx hb d_Run_position_0 rfl (lv_at hl 0 rfl) ?_
  refine xg_29_at hx hb hts hin_AddressStream hown hK hP (hts _ k_294) (fun _ h9 => h9) d_Run_position_1 ?_
  refine lv_aload_n hx hb d_Run_position_4 rfl (lv_at hl 0 rfl) ?_
  refine xg_29_program hx hb hts hin_AddressStream hown hK hP (hts _ k_265) (fun _ h9 => h9) d_Run_position_5 ?_
  refine xg_1_size hx hb hts hin_Program hown hK hP (hts _ k_116) (fun _ h9 => h9) d_Run_position_8 ?_
  refine va_mmin hx hb (hml.trans hl.1.symm) hown (hts _ k_757) (hts _ k_758) (hts _ k_68) (hts _ k_759) (Nat.le_of_ble_eq_true rfl) (Nat.le_of_ble_eq_true rfl) (Nat.zero_le _) (Nat.zero_le _) d_Run_position_11 ?_
  exact q_iret hx hb hr hlocks h hP hD hS d_Run_position_14
end
