def q_xs : List Cond := [.selects "SlippedStreams$AddressStream" ⟨"SlippedStreams$Stream", "goOver", "()V"⟩ ⟨"SlippedStreams$Stream", "goOver", "()V"⟩, .selects "SlippedStreams$ValueStream" ⟨"SlippedStreams$Stream", "goOver", "()V"⟩ ⟨"SlippedStreams$Stream", "goOver", "()V"⟩, .selects "SlippedStreams$AddressStream" ⟨"SlippedStreams$Run", "combined", "(I)I"⟩ ⟨"SlippedStreams$Run", "combined", "(I)I"⟩, .selects "SlippedStreams$ValueStream" ⟨"SlippedStreams$Run", "combined", "(I)I"⟩ ⟨"SlippedStreams$Run", "combined", "(I)I"⟩, .selects "SlippedStreams$PlainRun" ⟨"SlippedStreams$Run", "combined", "(I)I"⟩ ⟨"SlippedStreams$Run", "combined", "(I)I"⟩]
def q_raw : List Cond := q_xs ++ lw_tbl
def q_big : List Cond := q_raw.filter goodWord
theorem q_mem {w : Cond} (i : Nat) (h : q_raw[i]? = some w) (g : goodWord w = true) : w ∈ q_big := List.mem_filter.mpr ⟨List.mem_of_getElem? h, g⟩
theorem q_gd {w : Cond} (h : w ∈ q_big) : w ∈ q_big ∧ ((w.onTables && w.keeps) = true ∨ ∃ ty, w = .arrayClass ty) := ⟨h, good_of_word (List.mem_filter.mp h).2⟩
theorem q_good {b : Cond} (hb : b ∈ q_big) : GoodIn q_big (b :: q_big) := by
  intro w hw
  rcases List.mem_cons.mp hw with rfl | h
  · exact q_gd hb
  · exact q_gd h
theorem q_goodL {b : Cond} (l : List Cond) (hl : ∀ w ∈ l, w ∈ q_big) (hb : b ∈ q_big) : GoodIn q_big (l ++ (b :: q_big)) := by
  intro w hw
  rcases List.mem_append.mp hw with h | h
  · exact q_gd (hl w h)
  · exact q_good hb w h
theorem q_l2 {P : Cond → Prop} {a b : Cond} (h1 : P a) (h2 : P b) : ∀ w ∈ [a, b], P w := List.forall_mem_cons.mpr ⟨h1, List.forall_mem_cons.mpr ⟨h2, fun _ h => absurd h List.not_mem_nil⟩⟩
theorem q_l3 {P : Cond → Prop} {a b c : Cond} (h1 : P a) (h2 : P b) (h3 : P c) : ∀ w ∈ [a, b, c], P w := List.forall_mem_cons.mpr ⟨h1, q_l2 h2 h3⟩
theorem q_l4 {P : Cond → Prop} {a b c d : Cond} (h1 : P a) (h2 : P b) (h3 : P c) (h4 : P d) : ∀ w ∈ [a, b, c, d], P w := List.forall_mem_cons.mpr ⟨h1, q_l3 h2 h3 h4⟩
theorem q_l5 {P : Cond → Prop} {a b c d e : Cond} (h1 : P a) (h2 : P b) (h3 : P c) (h4 : P d) (h5 : P e) : ∀ w ∈ [a, b, c, d, e], P w := List.forall_mem_cons.mpr ⟨h1, q_l4 h2 h3 h4 h5⟩
theorem k_0 : Cond.selects "SlippedStreams$AddressStream" ⟨"SlippedStreams$Stream", "goOver", "()V"⟩ ⟨"SlippedStreams$Stream", "goOver", "()V"⟩ ∈ q_big := q_mem 0 (by decide +kernel) rfl
theorem k_1 : Cond.selects "SlippedStreams$ValueStream" ⟨"SlippedStreams$Stream", "goOver", "()V"⟩ ⟨"SlippedStreams$Stream", "goOver", "()V"⟩ ∈ q_big := q_mem 1 (by decide +kernel) rfl
theorem k_2 : Cond.selects "SlippedStreams$AddressStream" ⟨"SlippedStreams$Run", "combined", "(I)I"⟩ ⟨"SlippedStreams$Run", "combined", "(I)I"⟩ ∈ q_big := q_mem 2 (by decide +kernel) rfl
theorem k_3 : Cond.selects "SlippedStreams$ValueStream" ⟨"SlippedStreams$Run", "combined", "(I)I"⟩ ⟨"SlippedStreams$Run", "combined", "(I)I"⟩ ∈ q_big := q_mem 3 (by decide +kernel) rfl
theorem k_4 : Cond.selects "SlippedStreams$PlainRun" ⟨"SlippedStreams$Run", "combined", "(I)I"⟩ ⟨"SlippedStreams$Run", "combined", "(I)I"⟩ ∈ q_big := q_mem 4 (by decide +kernel) rfl
theorem k_5 : Cond.selects "SlippedStreams$Program" ⟨"SlippedStreams$Program", "slice", "()V"⟩ ⟨"SlippedStreams$Program", "slice", "()V"⟩ ∈ q_big := q_mem 5 (by decide +kernel) rfl
theorem k_6 : Cond.selects "SlippedStreams$Program" ⟨"SlippedStreams$Program", "findAddressRegisters", "()V"⟩ ⟨"SlippedStreams$Program", "findAddressRegisters", "()V"⟩ ∈ q_big := q_mem 6 (by decide +kernel) rfl
theorem k_7 : Cond.selects "SlippedStreams$Program" ⟨"SlippedStreams$Program", "belongsToAddresses", "(I)Z"⟩ ⟨"SlippedStreams$Program", "belongsToAddresses", "(I)Z"⟩ ∈ q_big := q_mem 7 (by decide +kernel) rfl
theorem k_8 : Cond.selects "SlippedStreams$Program" ⟨"SlippedStreams$Program", "findPassed", "(I)V"⟩ ⟨"SlippedStreams$Program", "findPassed", "(I)V"⟩ ∈ q_big := q_mem 8 (by decide +kernel) rfl
theorem k_9 : Cond.selects "SlippedStreams$Program" ⟨"SlippedStreams$Program", "firstRead", "(I)I"⟩ ⟨"SlippedStreams$Program", "firstRead", "(I)I"⟩ ∈ q_big := q_mem 9 (by decide +kernel) rfl
theorem k_10 : Cond.selects "SlippedStreams$Program" ⟨"SlippedStreams$Program", "secondRead", "(I)I"⟩ ⟨"SlippedStreams$Program", "secondRead", "(I)I"⟩ ∈ q_big := q_mem 10 (by decide +kernel) rfl
theorem k_11 : Cond.selects "SlippedStreams$Program" ⟨"SlippedStreams$Program", "findNothings", "(I)V"⟩ ⟨"SlippedStreams$Program", "findNothings", "(I)V"⟩ ∈ q_big := q_mem 11 (by decide +kernel) rfl
theorem k_12 : Cond.selects "SlippedStreams" ⟨"SlippedStreams", "beginAnew", "()V"⟩ ⟨"SlippedStreams", "beginAnew", "()V"⟩ ∈ q_big := q_mem 12 (by decide +kernel) rfl
theorem k_13 : Cond.selects "SlippedStreams$AddressStream" ⟨"SlippedStreams$AddressStream", "doOwn", "(I)Z"⟩ ⟨"SlippedStreams$AddressStream", "doOwn", "(I)Z"⟩ ∈ q_big := q_mem 13 (by decide +kernel) rfl
theorem k_14 : Cond.selects "SlippedStreams$AddressStream" ⟨"SlippedStreams$AddressStream", "load", "(I)Z"⟩ ⟨"SlippedStreams$AddressStream", "load", "(I)Z"⟩ ∈ q_big := q_mem 14 (by decide +kernel) rfl
theorem k_15 : Cond.selects "SlippedStreams$StoreList" ⟨"SlippedStreams$StoreList", "slot", "(I)I"⟩ ⟨"SlippedStreams$StoreList", "slot", "(I)I"⟩ ∈ q_big := q_mem 15 (by decide +kernel) rfl
theorem k_16 : Cond.selects "SlippedStreams$AddressStream" ⟨"SlippedStreams$AddressStream", "store", "(I)Z"⟩ ⟨"SlippedStreams$AddressStream", "store", "(I)Z"⟩ ∈ q_big := q_mem 16 (by decide +kernel) rfl
theorem k_17 : Cond.selects "SlippedStreams$StoreList" ⟨"SlippedStreams$StoreList", "know", "(II)V"⟩ ⟨"SlippedStreams$StoreList", "know", "(II)V"⟩ ∈ q_big := q_mem 17 (by decide +kernel) rfl
theorem k_18 : Cond.selects "SlippedStreams$AddressStream" ⟨"SlippedStreams$AddressStream", "serve", "(I)Z"⟩ ⟨"SlippedStreams$AddressStream", "serve", "(I)Z"⟩ ∈ q_big := q_mem 18 (by decide +kernel) rfl
theorem k_19 : Cond.selects "SlippedStreams$AddressStream" ⟨"SlippedStreams$AddressStream", "sendLoad", "(I)Z"⟩ ⟨"SlippedStreams$AddressStream", "sendLoad", "(I)Z"⟩ ∈ q_big := q_mem 19 (by decide +kernel) rfl
theorem k_20 : Cond.selects "SlippedStreams$AddressStream" ⟨"SlippedStreams$AddressStream", "hand", "(I)V"⟩ ⟨"SlippedStreams$AddressStream", "hand", "(I)V"⟩ ∈ q_big := q_mem 20 (by decide +kernel) rfl
theorem k_21 : Cond.selects "SlippedStreams$PlainRun" ⟨"SlippedStreams$PlainRun", "perform", "(I)V"⟩ ⟨"SlippedStreams$PlainRun", "perform", "(I)V"⟩ ∈ q_big := q_mem 21 (by decide +kernel) rfl
theorem k_22 : Cond.selects "SlippedStreams$ValueStream" ⟨"SlippedStreams$ValueStream", "receiveLoad", "(I)Z"⟩ ⟨"SlippedStreams$ValueStream", "receiveLoad", "(I)Z"⟩ ∈ q_big := q_mem 22 (by decide +kernel) rfl
theorem k_23 : Cond.selects "SlippedStreams$ValueStream" ⟨"SlippedStreams$ValueStream", "doOwn", "(I)Z"⟩ ⟨"SlippedStreams$ValueStream", "doOwn", "(I)Z"⟩ ∈ q_big := q_mem 23 (by decide +kernel) rfl
theorem k_24 : Cond.selects "SlippedStreams$ValueStream" ⟨"SlippedStreams$ValueStream", "receive", "(I)V"⟩ ⟨"SlippedStreams$ValueStream", "receive", "(I)V"⟩ ∈ q_big := q_mem 24 (by decide +kernel) rfl
theorem k_25 : Cond.selects "SlippedStreams$ValueStream" ⟨"SlippedStreams$ValueStream", "giveStored", "(I)Z"⟩ ⟨"SlippedStreams$ValueStream", "giveStored", "(I)Z"⟩ ∈ q_big := q_mem 25 (by decide +kernel) rfl
theorem k_26 : Cond.selects "SlippedStreams" ⟨"SlippedStreams", "noteLoss", "()V"⟩ ⟨"SlippedStreams", "noteLoss", "()V"⟩ ∈ q_big := q_mem 26 (by decide +kernel) rfl
theorem k_27 : Cond.selects "SlippedStreamsModel" ⟨"SlippedStreamsModel", "slice", "()V"⟩ ⟨"SlippedStreamsModel", "slice", "()V"⟩ ∈ q_big := q_mem 27 (by decide +kernel) rfl
theorem k_28 : Cond.selects "SlippedStreamsModel" ⟨"SlippedStreamsModel", "goOver", "(I)V"⟩ ⟨"SlippedStreamsModel", "goOver", "(I)V"⟩ ∈ q_big := q_mem 28 (by decide +kernel) rfl
theorem k_29 : Cond.selects "SlippedStreamsModel" ⟨"SlippedStreamsModel", "isNothing", "(II)Z"⟩ ⟨"SlippedStreamsModel", "isNothing", "(II)Z"⟩ ∈ q_big := q_mem 29 (by decide +kernel) rfl
theorem k_30 : Cond.selects "SlippedStreamsModel" ⟨"SlippedStreamsModel", "isBranch", "(I)Z"⟩ ⟨"SlippedStreamsModel", "isBranch", "(I)Z"⟩ ∈ q_big := q_mem 30 (by decide +kernel) rfl
theorem k_31 : Cond.selects "SlippedStreamsModel" ⟨"SlippedStreamsModel", "belongs", "(I)I"⟩ ⟨"SlippedStreamsModel", "belongs", "(I)I"⟩ ∈ q_big := q_mem 31 (by decide +kernel) rfl
theorem k_32 : Cond.selects "SlippedStreamsModel" ⟨"SlippedStreamsModel", "howMany", "(I)I"⟩ ⟨"SlippedStreamsModel", "howMany", "(I)I"⟩ ∈ q_big := q_mem 32 (by decide +kernel) rfl
theorem k_33 : Cond.selects "SlippedStreamsModel" ⟨"SlippedStreamsModel", "handed", "(II)I"⟩ ⟨"SlippedStreamsModel", "handed", "(II)I"⟩ ∈ q_big := q_mem 33 (by decide +kernel) rfl
theorem k_34 : Cond.selects "SlippedStreamsModel" ⟨"SlippedStreamsModel", "reads", "(II)I"⟩ ⟨"SlippedStreamsModel", "reads", "(II)I"⟩ ∈ q_big := q_mem 34 (by decide +kernel) rfl
theorem k_35 : Cond.selects "SlippedStreamsModel" ⟨"SlippedStreamsModel", "moveAddress", "()Z"⟩ ⟨"SlippedStreamsModel", "moveAddress", "()Z"⟩ ∈ q_big := q_mem 35 (by decide +kernel) rfl
theorem k_36 : Cond.selects "SlippedStreamsModel" ⟨"SlippedStreamsModel", "load", "(I)Z"⟩ ⟨"SlippedStreamsModel", "load", "(I)Z"⟩ ∈ q_big := q_mem 36 (by decide +kernel) rfl
theorem k_37 : Cond.selects "SlippedStreamsModel" ⟨"SlippedStreamsModel", "isInList", "(I)Z"⟩ ⟨"SlippedStreamsModel", "isInList", "(I)Z"⟩ ∈ q_big := q_mem 37 (by decide +kernel) rfl
theorem k_38 : Cond.selects "SlippedStreamsModel" ⟨"SlippedStreamsModel", "hasRoom", "(II)Z"⟩ ⟨"SlippedStreamsModel", "hasRoom", "(II)Z"⟩ ∈ q_big := q_mem 38 (by decide +kernel) rfl
theorem k_39 : Cond.selects "SlippedStreamsModel" ⟨"SlippedStreamsModel", "put", "(II)V"⟩ ⟨"SlippedStreamsModel", "put", "(II)V"⟩ ∈ q_big := q_mem 39 (by decide +kernel) rfl
theorem k_40 : Cond.selects "SlippedStreamsModel" ⟨"SlippedStreamsModel", "leave", "(II)V"⟩ ⟨"SlippedStreamsModel", "leave", "(II)V"⟩ ∈ q_big := q_mem 40 (by decide +kernel) rfl
theorem k_41 : Cond.selects "SlippedStreamsModel" ⟨"SlippedStreamsModel", "store", "(I)Z"⟩ ⟨"SlippedStreamsModel", "store", "(I)Z"⟩ ∈ q_big := q_mem 41 (by decide +kernel) rfl
theorem k_42 : Cond.selects "SlippedStreamsModel" ⟨"SlippedStreamsModel", "take", "(I)I"⟩ ⟨"SlippedStreamsModel", "take", "(I)I"⟩ ∈ q_big := q_mem 42 (by decide +kernel) rfl
theorem k_43 : Cond.selects "SlippedStreamsModel" ⟨"SlippedStreamsModel", "drain", "()V"⟩ ⟨"SlippedStreamsModel", "drain", "()V"⟩ ∈ q_big := q_mem 43 (by decide +kernel) rfl
theorem k_44 : Cond.selects "SlippedStreamsModel" ⟨"SlippedStreamsModel", "follow", "(I)Z"⟩ ⟨"SlippedStreamsModel", "follow", "(I)Z"⟩ ∈ q_big := q_mem 44 (by decide +kernel) rfl
theorem k_45 : Cond.selects "SlippedStreamsModel" ⟨"SlippedStreamsModel", "hand", "(I)V"⟩ ⟨"SlippedStreamsModel", "hand", "(I)V"⟩ ∈ q_big := q_mem 45 (by decide +kernel) rfl
theorem k_46 : Cond.selects "SlippedStreamsModel" ⟨"SlippedStreamsModel", "moveValue", "()Z"⟩ ⟨"SlippedStreamsModel", "moveValue", "()Z"⟩ ∈ q_big := q_mem 46 (by decide +kernel) rfl
theorem k_47 : Cond.selects "SlippedStreamsModel" ⟨"SlippedStreamsModel", "give", "(I)Z"⟩ ⟨"SlippedStreamsModel", "give", "(I)Z"⟩ ∈ q_big := q_mem 47 (by decide +kernel) rfl
theorem k_48 : Cond.selects "SlippedStreamsModel" ⟨"SlippedStreamsModel", "work", "(I)Z"⟩ ⟨"SlippedStreamsModel", "work", "(I)Z"⟩ ∈ q_big := q_mem 48 (by decide +kernel) rfl
theorem k_49 : Cond.selects "SlippedStreamsModel" ⟨"SlippedStreamsModel", "valueOf", "(II)I"⟩ ⟨"SlippedStreamsModel", "valueOf", "(II)I"⟩ ∈ q_big := q_mem 49 (by decide +kernel) rfl
theorem k_50 : Cond.selects "SlippedStreamsModel" ⟨"SlippedStreamsModel", "write", "(III)V"⟩ ⟨"SlippedStreamsModel", "write", "(III)V"⟩ ∈ q_big := q_mem 50 (by decide +kernel) rfl
theorem k_51 : Cond.selects "SlippedStreamsModel" ⟨"SlippedStreamsModel", "plainStep", "()V"⟩ ⟨"SlippedStreamsModel", "plainStep", "()V"⟩ ∈ q_big := q_mem 51 (by decide +kernel) rfl
theorem k_53 : Cond.initialized "SlippedStreams" ∈ q_big := q_mem 53 (by decide +kernel) rfl
theorem k_54 : Cond.initialized "SlippedStreams$Program" ∈ q_big := q_mem 54 (by decide +kernel) rfl
theorem k_55 : Cond.initialized "SlippedStreams$Link" ∈ q_big := q_mem 55 (by decide +kernel) rfl
theorem k_56 : Cond.initialized "SlippedStreams$Fifo" ∈ q_big := q_mem 56 (by decide +kernel) rfl
theorem k_57 : Cond.initialized "SlippedStreams$StoreList" ∈ q_big := q_mem 57 (by decide +kernel) rfl
theorem k_58 : Cond.initialized "SlippedStreams$Run" ∈ q_big := q_mem 58 (by decide +kernel) rfl
theorem k_59 : Cond.initialized "SlippedStreams$Stream" ∈ q_big := q_mem 59 (by decide +kernel) rfl
theorem k_60 : Cond.initialized "SlippedStreams$AddressStream" ∈ q_big := q_mem 60 (by decide +kernel) rfl
theorem k_61 : Cond.initialized "SlippedStreams$ValueStream" ∈ q_big := q_mem 61 (by decide +kernel) rfl
theorem k_62 : Cond.initialized "SlippedStreams$Written" ∈ q_big := q_mem 62 (by decide +kernel) rfl
theorem k_63 : Cond.initialized "SlippedStreams$PlainRun" ∈ q_big := q_mem 63 (by decide +kernel) rfl
theorem k_64 : Cond.initialized "SlippedStreamsModel" ∈ q_big := q_mem 64 (by decide +kernel) rfl
theorem k_65 : Cond.initialized "java/lang/System" ∈ q_big := q_mem 65 (by decide +kernel) rfl
theorem k_66 : Cond.initialized "java/util/Arrays" ∈ q_big := q_mem 66 (by decide +kernel) rfl
theorem k_67 : Cond.initialized "java/lang/Integer" ∈ q_big := q_mem 67 (by decide +kernel) rfl
theorem k_68 : Cond.initialized "java/lang/Math" ∈ q_big := q_mem 68 (by decide +kernel) rfl
theorem k_83 : Cond.fieldLink "SlippedStreams$Program" 9 "SlippedStreams$Program" "kinds" "[I" ∈ q_big := q_mem 83 (by decide +kernel) rfl
theorem k_84 : Cond.fieldLink "SlippedStreams$ValueStream" 48 "SlippedStreams$Program" "kinds" "[I" ∈ q_big := q_mem 84 (by decide +kernel) rfl
theorem k_85 : Cond.fieldLink "SlippedStreams$PlainRun" 74 "SlippedStreams$Program" "kinds" "[I" ∈ q_big := q_mem 85 (by decide +kernel) rfl
theorem k_86 : Cond.fieldLink "SlippedStreams$AddressStream" 54 "SlippedStreams$Program" "kinds" "[I" ∈ q_big := q_mem 86 (by decide +kernel) rfl
theorem k_87 : Cond.fieldLink "SlippedStreams$Run" 47 "SlippedStreams$Program" "kinds" "[I" ∈ q_big := q_mem 87 (by decide +kernel) rfl
theorem k_88 : Cond.fieldLink "SlippedStreams$Program" 15 "SlippedStreams$Program" "as" "[I" ∈ q_big := q_mem 88 (by decide +kernel) rfl
theorem k_89 : Cond.fieldLink "SlippedStreams$PlainRun" 71 "SlippedStreams$Program" "as" "[I" ∈ q_big := q_mem 89 (by decide +kernel) rfl
theorem k_90 : Cond.fieldLink "SlippedStreams$ValueStream" 89 "SlippedStreams$Program" "as" "[I" ∈ q_big := q_mem 90 (by decide +kernel) rfl
theorem k_91 : Cond.fieldLink "SlippedStreams$AddressStream" 105 "SlippedStreams$Program" "as" "[I" ∈ q_big := q_mem 91 (by decide +kernel) rfl
theorem k_92 : Cond.fieldLink "SlippedStreams$Run" 44 "SlippedStreams$Program" "as" "[I" ∈ q_big := q_mem 92 (by decide +kernel) rfl
theorem k_93 : Cond.fieldLink "SlippedStreams$Program" 18 "SlippedStreams$Program" "bs" "[I" ∈ q_big := q_mem 93 (by decide +kernel) rfl
theorem k_94 : Cond.fieldLink "SlippedStreams$Run" 38 "SlippedStreams$Program" "bs" "[I" ∈ q_big := q_mem 94 (by decide +kernel) rfl
theorem k_95 : Cond.fieldLink "SlippedStreams$Program" 21 "SlippedStreams$Program" "cs" "[I" ∈ q_big := q_mem 95 (by decide +kernel) rfl
theorem k_96 : Cond.fieldLink "SlippedStreams$Run" 41 "SlippedStreams$Program" "cs" "[I" ∈ q_big := q_mem 96 (by decide +kernel) rfl
theorem k_97 : Cond.fieldLink "SlippedStreams$Program" 24 "SlippedStreams$Program" "streams" "[I" ∈ q_big := q_mem 97 (by decide +kernel) rfl
theorem k_98 : Cond.fieldLink "SlippedStreams$AddressStream" 33 "SlippedStreams$Program" "streams" "[I" ∈ q_big := q_mem 98 (by decide +kernel) rfl
theorem k_99 : Cond.fieldLink "SlippedStreams$ValueStream" 40 "SlippedStreams$Program" "streams" "[I" ∈ q_big := q_mem 99 (by decide +kernel) rfl
theorem k_100 : Cond.fieldLink "SlippedStreams" 70 "SlippedStreams$Program" "streams" "[I" ∈ q_big := q_mem 100 (by decide +kernel) rfl
theorem k_101 : Cond.fieldLink "SlippedStreams$Program" 27 "SlippedStreams$Program" "firstPassed" "[I" ∈ q_big := q_mem 101 (by decide +kernel) rfl
theorem k_102 : Cond.fieldLink "SlippedStreams$ValueStream" 111 "SlippedStreams$Program" "firstPassed" "[I" ∈ q_big := q_mem 102 (by decide +kernel) rfl
theorem k_103 : Cond.fieldLink "SlippedStreams$AddressStream" 149 "SlippedStreams$Program" "firstPassed" "[I" ∈ q_big := q_mem 103 (by decide +kernel) rfl
theorem k_104 : Cond.fieldLink "SlippedStreams$Program" 30 "SlippedStreams$Program" "secondPassed" "[I" ∈ q_big := q_mem 104 (by decide +kernel) rfl
theorem k_105 : Cond.fieldLink "SlippedStreams$ValueStream" 118 "SlippedStreams$Program" "secondPassed" "[I" ∈ q_big := q_mem 105 (by decide +kernel) rfl
theorem k_106 : Cond.fieldLink "SlippedStreams$AddressStream" 155 "SlippedStreams$Program" "secondPassed" "[I" ∈ q_big := q_mem 106 (by decide +kernel) rfl
theorem k_107 : Cond.fieldLink "SlippedStreams$Program" 33 "SlippedStreams$Program" "passedCounts" "[I" ∈ q_big := q_mem 107 (by decide +kernel) rfl
theorem k_108 : Cond.fieldLink "SlippedStreams$AddressStream" 51 "SlippedStreams$Program" "passedCounts" "[I" ∈ q_big := q_mem 108 (by decide +kernel) rfl
theorem k_109 : Cond.fieldLink "SlippedStreams$ValueStream" 102 "SlippedStreams$Program" "passedCounts" "[I" ∈ q_big := q_mem 109 (by decide +kernel) rfl
theorem k_111 : Cond.fieldLink "SlippedStreams$Program" 36 "SlippedStreams$Program" "nothingForAddresses" "[Z" ∈ q_big := q_mem 111 (by decide +kernel) rfl
theorem k_113 : Cond.fieldLink "SlippedStreams$Program" 40 "SlippedStreams$Program" "nothingForValues" "[Z" ∈ q_big := q_mem 113 (by decide +kernel) rfl
theorem k_114 : Cond.fieldLink "SlippedStreams" 52 "SlippedStreams$Program" "size" "I" ∈ q_big := q_mem 114 (by decide +kernel) rfl
theorem k_115 : Cond.fieldLink "SlippedStreams$Program" 47 "SlippedStreams$Program" "size" "I" ∈ q_big := q_mem 115 (by decide +kernel) rfl
theorem k_116 : Cond.fieldLink "SlippedStreams$Run" 27 "SlippedStreams$Program" "size" "I" ∈ q_big := q_mem 116 (by decide +kernel) rfl
theorem k_117 : Cond.fieldLink "SlippedStreams$Stream" 66 "SlippedStreams$Program" "size" "I" ∈ q_big := q_mem 117 (by decide +kernel) rfl
theorem k_118 : Cond.fieldLink "SlippedStreams$Program" 54 "SlippedStreams$Program" "addressMask" "I" ∈ q_big := q_mem 118 (by decide +kernel) rfl
theorem k_119 : Cond.fieldLink "SlippedStreams" 73 "SlippedStreams$Program" "addressMask" "I" ∈ q_big := q_mem 119 (by decide +kernel) rfl
theorem k_120 : Cond.laysFinal "SlippedStreams$Program" "SlippedStreams$Program" "kinds" "[I" ∈ q_big := q_mem 120 (by decide +kernel) rfl
theorem k_122 : Cond.laysFinal "SlippedStreams$Program" "SlippedStreams$Program" "as" "[I" ∈ q_big := q_mem 122 (by decide +kernel) rfl
theorem k_124 : Cond.laysFinal "SlippedStreams$Program" "SlippedStreams$Program" "bs" "[I" ∈ q_big := q_mem 124 (by decide +kernel) rfl
theorem k_126 : Cond.laysFinal "SlippedStreams$Program" "SlippedStreams$Program" "cs" "[I" ∈ q_big := q_mem 126 (by decide +kernel) rfl
theorem k_128 : Cond.laysFinal "SlippedStreams$Program" "SlippedStreams$Program" "streams" "[I" ∈ q_big := q_mem 128 (by decide +kernel) rfl
theorem k_130 : Cond.laysFinal "SlippedStreams$Program" "SlippedStreams$Program" "firstPassed" "[I" ∈ q_big := q_mem 130 (by decide +kernel) rfl
theorem k_132 : Cond.laysFinal "SlippedStreams$Program" "SlippedStreams$Program" "secondPassed" "[I" ∈ q_big := q_mem 132 (by decide +kernel) rfl
theorem k_134 : Cond.laysFinal "SlippedStreams$Program" "SlippedStreams$Program" "passedCounts" "[I" ∈ q_big := q_mem 134 (by decide +kernel) rfl
theorem k_136 : Cond.laysFinal "SlippedStreams$Program" "SlippedStreams$Program" "nothingForAddresses" "[Z" ∈ q_big := q_mem 136 (by decide +kernel) rfl
theorem k_138 : Cond.laysFinal "SlippedStreams$Program" "SlippedStreams$Program" "nothingForValues" "[Z" ∈ q_big := q_mem 138 (by decide +kernel) rfl
theorem k_140 : Cond.lays "SlippedStreams$Program" "SlippedStreams$Program" "size" "I" ∈ q_big := q_mem 140 (by decide +kernel) rfl
theorem k_142 : Cond.lays "SlippedStreams$Program" "SlippedStreams$Program" "addressMask" "I" ∈ q_big := q_mem 142 (by decide +kernel) rfl
theorem k_159 : Cond.fieldLink "SlippedStreams$Fifo" 7 "SlippedStreams$Fifo" "things" "[I" ∈ q_big := q_mem 159 (by decide +kernel) rfl
theorem k_160 : Cond.fieldLink "SlippedStreams$Fifo" 13 "SlippedStreams$Fifo" "first" "I" ∈ q_big := q_mem 160 (by decide +kernel) rfl
theorem k_161 : Cond.fieldLink "SlippedStreams$Fifo" 17 "SlippedStreams$Fifo" "size" "I" ∈ q_big := q_mem 161 (by decide +kernel) rfl
theorem k_162 : Cond.fieldLink "SlippedStreams$ValueStream" 81 "SlippedStreams$Fifo" "size" "I" ∈ q_big := q_mem 162 (by decide +kernel) rfl
theorem k_163 : Cond.fieldLink "SlippedStreams$Stream" 55 "SlippedStreams$Fifo" "size" "I" ∈ q_big := q_mem 163 (by decide +kernel) rfl
theorem k_164 : Cond.fieldLink "SlippedStreams$AddressStream" 124 "SlippedStreams$Fifo" "size" "I" ∈ q_big := q_mem 164 (by decide +kernel) rfl
theorem k_165 : Cond.fieldLink "SlippedStreams" 112 "SlippedStreams$Fifo" "size" "I" ∈ q_big := q_mem 165 (by decide +kernel) rfl
theorem k_166 : Cond.laysFinal "SlippedStreams$Fifo" "SlippedStreams$Fifo" "things" "[I" ∈ q_big := q_mem 166 (by decide +kernel) rfl
theorem k_168 : Cond.lays "SlippedStreams$Fifo" "SlippedStreams$Fifo" "first" "I" ∈ q_big := q_mem 168 (by decide +kernel) rfl
theorem k_170 : Cond.lays "SlippedStreams$Fifo" "SlippedStreams$Fifo" "size" "I" ∈ q_big := q_mem 170 (by decide +kernel) rfl
theorem k_179 : Cond.fieldLink "SlippedStreams$StoreList" 22 "SlippedStreams$StoreList" "memory" "[I" ∈ q_big := q_mem 179 (by decide +kernel) rfl
theorem k_180 : Cond.fieldLink "SlippedStreams$StoreList" 9 "SlippedStreams$StoreList" "addresses" "[I" ∈ q_big := q_mem 180 (by decide +kernel) rfl
theorem k_181 : Cond.fieldLink "SlippedStreams$StoreList" 15 "SlippedStreams$StoreList" "values" "[I" ∈ q_big := q_mem 181 (by decide +kernel) rfl
theorem k_182 : Cond.fieldLink "SlippedStreams$StoreList" 18 "SlippedStreams$StoreList" "known" "[Z" ∈ q_big := q_mem 182 (by decide +kernel) rfl
theorem k_183 : Cond.fieldLink "SlippedStreams$StoreList" 25 "SlippedStreams$StoreList" "first" "I" ∈ q_big := q_mem 183 (by decide +kernel) rfl
theorem k_184 : Cond.fieldLink "SlippedStreams$StoreList" 29 "SlippedStreams$StoreList" "size" "I" ∈ q_big := q_mem 184 (by decide +kernel) rfl
theorem k_185 : Cond.fieldLink "SlippedStreams" 131 "SlippedStreams$StoreList" "size" "I" ∈ q_big := q_mem 185 (by decide +kernel) rfl
theorem k_186 : Cond.laysFinal "SlippedStreams$StoreList" "SlippedStreams$StoreList" "memory" "[I" ∈ q_big := q_mem 186 (by decide +kernel) rfl
theorem k_188 : Cond.laysFinal "SlippedStreams$StoreList" "SlippedStreams$StoreList" "addresses" "[I" ∈ q_big := q_mem 188 (by decide +kernel) rfl
theorem k_190 : Cond.laysFinal "SlippedStreams$StoreList" "SlippedStreams$StoreList" "values" "[I" ∈ q_big := q_mem 190 (by decide +kernel) rfl
theorem k_192 : Cond.laysFinal "SlippedStreams$StoreList" "SlippedStreams$StoreList" "known" "[Z" ∈ q_big := q_mem 192 (by decide +kernel) rfl
theorem k_194 : Cond.lays "SlippedStreams$StoreList" "SlippedStreams$StoreList" "first" "I" ∈ q_big := q_mem 194 (by decide +kernel) rfl
theorem k_196 : Cond.lays "SlippedStreams$StoreList" "SlippedStreams$StoreList" "size" "I" ∈ q_big := q_mem 196 (by decide +kernel) rfl
theorem k_199 : Cond.fieldLink "SlippedStreams$Link" 9 "SlippedStreams$Link" "memory" "[I" ∈ q_big := q_mem 199 (by decide +kernel) rfl
theorem k_200 : Cond.fieldLink "SlippedStreams$AddressStream" 108 "SlippedStreams$Link" "memory" "[I" ∈ q_big := q_mem 200 (by decide +kernel) rfl
theorem k_201 : Cond.fieldLink "SlippedStreams" 148 "SlippedStreams$Link" "memory" "[I" ∈ q_big := q_mem 201 (by decide +kernel) rfl
theorem k_202 : Cond.fieldLink "SlippedStreams$Link" 20 "SlippedStreams$Link" "loads" "LSlippedStreams$Fifo;" ∈ q_big := q_mem 202 (by decide +kernel) rfl
theorem k_203 : Cond.fieldLink "SlippedStreams$ValueStream" 78 "SlippedStreams$Link" "loads" "LSlippedStreams$Fifo;" ∈ q_big := q_mem 203 (by decide +kernel) rfl
theorem k_204 : Cond.fieldLink "SlippedStreams$AddressStream" 158 "SlippedStreams$Link" "loads" "LSlippedStreams$Fifo;" ∈ q_big := q_mem 204 (by decide +kernel) rfl
theorem k_205 : Cond.fieldLink "SlippedStreams" 108 "SlippedStreams$Link" "loads" "LSlippedStreams$Fifo;" ∈ q_big := q_mem 205 (by decide +kernel) rfl
theorem k_206 : Cond.fieldLink "SlippedStreams$Link" 24 "SlippedStreams$Link" "stored" "LSlippedStreams$Fifo;" ∈ q_big := q_mem 206 (by decide +kernel) rfl
theorem k_207 : Cond.fieldLink "SlippedStreams$ValueStream" 139 "SlippedStreams$Link" "stored" "LSlippedStreams$Fifo;" ∈ q_big := q_mem 207 (by decide +kernel) rfl
theorem k_208 : Cond.fieldLink "SlippedStreams$AddressStream" 121 "SlippedStreams$Link" "stored" "LSlippedStreams$Fifo;" ∈ q_big := q_mem 208 (by decide +kernel) rfl
theorem k_209 : Cond.fieldLink "SlippedStreams" 115 "SlippedStreams$Link" "stored" "LSlippedStreams$Fifo;" ∈ q_big := q_mem 209 (by decide +kernel) rfl
theorem k_210 : Cond.fieldLink "SlippedStreams$Link" 27 "SlippedStreams$Link" "valueOutcomes" "LSlippedStreams$Fifo;" ∈ q_big := q_mem 210 (by decide +kernel) rfl
theorem k_211 : Cond.fieldLink "SlippedStreams$ValueStream" 65 "SlippedStreams$Link" "valueOutcomes" "LSlippedStreams$Fifo;" ∈ q_big := q_mem 211 (by decide +kernel) rfl
theorem k_212 : Cond.fieldLink "SlippedStreams$AddressStream" 67 "SlippedStreams$Link" "valueOutcomes" "LSlippedStreams$Fifo;" ∈ q_big := q_mem 212 (by decide +kernel) rfl
theorem k_213 : Cond.fieldLink "SlippedStreams" 118 "SlippedStreams$Link" "valueOutcomes" "LSlippedStreams$Fifo;" ∈ q_big := q_mem 213 (by decide +kernel) rfl
theorem k_214 : Cond.fieldLink "SlippedStreams$Link" 30 "SlippedStreams$Link" "addressOutcomes" "LSlippedStreams$Fifo;" ∈ q_big := q_mem 214 (by decide +kernel) rfl
theorem k_215 : Cond.fieldLink "SlippedStreams$ValueStream" 105 "SlippedStreams$Link" "addressOutcomes" "LSlippedStreams$Fifo;" ∈ q_big := q_mem 215 (by decide +kernel) rfl
theorem k_216 : Cond.fieldLink "SlippedStreams$AddressStream" 140 "SlippedStreams$Link" "addressOutcomes" "LSlippedStreams$Fifo;" ∈ q_big := q_mem 216 (by decide +kernel) rfl
theorem k_217 : Cond.fieldLink "SlippedStreams" 121 "SlippedStreams$Link" "addressOutcomes" "LSlippedStreams$Fifo;" ∈ q_big := q_mem 217 (by decide +kernel) rfl
theorem k_218 : Cond.fieldLink "SlippedStreams$Link" 33 "SlippedStreams$Link" "passed" "LSlippedStreams$Fifo;" ∈ q_big := q_mem 218 (by decide +kernel) rfl
theorem k_219 : Cond.fieldLink "SlippedStreams$ValueStream" 99 "SlippedStreams$Link" "passed" "LSlippedStreams$Fifo;" ∈ q_big := q_mem 219 (by decide +kernel) rfl
theorem k_220 : Cond.fieldLink "SlippedStreams$AddressStream" 146 "SlippedStreams$Link" "passed" "LSlippedStreams$Fifo;" ∈ q_big := q_mem 220 (by decide +kernel) rfl
theorem k_221 : Cond.fieldLink "SlippedStreams" 124 "SlippedStreams$Link" "passed" "LSlippedStreams$Fifo;" ∈ q_big := q_mem 221 (by decide +kernel) rfl
theorem k_222 : Cond.fieldLink "SlippedStreams$Link" 41 "SlippedStreams$Link" "stores" "LSlippedStreams$StoreList;" ∈ q_big := q_mem 222 (by decide +kernel) rfl
theorem k_223 : Cond.fieldLink "SlippedStreams$AddressStream" 93 "SlippedStreams$Link" "stores" "LSlippedStreams$StoreList;" ∈ q_big := q_mem 223 (by decide +kernel) rfl
theorem k_224 : Cond.fieldLink "SlippedStreams$ValueStream" 130 "SlippedStreams$Link" "stores" "LSlippedStreams$StoreList;" ∈ q_big := q_mem 224 (by decide +kernel) rfl
theorem k_225 : Cond.fieldLink "SlippedStreams" 127 "SlippedStreams$Link" "stores" "LSlippedStreams$StoreList;" ∈ q_big := q_mem 225 (by decide +kernel) rfl
theorem k_226 : Cond.laysFinal "SlippedStreams$Link" "SlippedStreams$Link" "memory" "[I" ∈ q_big := q_mem 226 (by decide +kernel) rfl
theorem k_228 : Cond.laysFinal "SlippedStreams$Link" "SlippedStreams$Link" "loads" "LSlippedStreams$Fifo;" ∈ q_big := q_mem 228 (by decide +kernel) rfl
theorem k_230 : Cond.laysFinal "SlippedStreams$Link" "SlippedStreams$Link" "stored" "LSlippedStreams$Fifo;" ∈ q_big := q_mem 230 (by decide +kernel) rfl
theorem k_232 : Cond.laysFinal "SlippedStreams$Link" "SlippedStreams$Link" "valueOutcomes" "LSlippedStreams$Fifo;" ∈ q_big := q_mem 232 (by decide +kernel) rfl
theorem k_234 : Cond.laysFinal "SlippedStreams$Link" "SlippedStreams$Link" "addressOutcomes" "LSlippedStreams$Fifo;" ∈ q_big := q_mem 234 (by decide +kernel) rfl
theorem k_236 : Cond.laysFinal "SlippedStreams$Link" "SlippedStreams$Link" "passed" "LSlippedStreams$Fifo;" ∈ q_big := q_mem 236 (by decide +kernel) rfl
theorem k_238 : Cond.laysFinal "SlippedStreams$Link" "SlippedStreams$Link" "stores" "LSlippedStreams$StoreList;" ∈ q_big := q_mem 238 (by decide +kernel) rfl
theorem k_253 : Cond.fieldLink "SlippedStreams$AddressStream" 15 "SlippedStreams$AddressStream" "handed" "Z" ∈ q_big := q_mem 253 (by decide +kernel) rfl
theorem k_255 : Cond.fieldLink "SlippedStreams$ValueStream" 61 "SlippedStreams$ValueStream" "link" "LSlippedStreams$Link;" ∈ q_big := q_mem 255 (by decide +kernel) rfl
theorem k_256 : Cond.sameField "SlippedStreams$ValueStream" "SlippedStreams$Stream" "link" "LSlippedStreams$Link;" ∈ q_big := q_mem 256 (by decide +kernel) rfl
theorem k_257 : Cond.fieldLink "SlippedStreams$AddressStream" 63 "SlippedStreams$AddressStream" "link" "LSlippedStreams$Link;" ∈ q_big := q_mem 257 (by decide +kernel) rfl
theorem k_258 : Cond.sameField "SlippedStreams$AddressStream" "SlippedStreams$Stream" "link" "LSlippedStreams$Link;" ∈ q_big := q_mem 258 (by decide +kernel) rfl
theorem k_259 : Cond.fieldLink "SlippedStreams$Stream" 13 "SlippedStreams$Stream" "nothings" "[Z" ∈ q_big := q_mem 259 (by decide +kernel) rfl
theorem k_260 : Cond.fieldLink "SlippedStreams$Stream" 27 "SlippedStreams$Stream" "left" "I" ∈ q_big := q_mem 260 (by decide +kernel) rfl
theorem k_261 : Cond.fieldLink "SlippedStreams" 104 "SlippedStreams$AddressStream" "left" "I" ∈ q_big := q_mem 261 (by decide +kernel) rfl
theorem k_262 : Cond.sameField "SlippedStreams$AddressStream" "SlippedStreams$Stream" "left" "I" ∈ q_big := q_mem 262 (by decide +kernel) rfl
theorem k_263 : Cond.fieldLink "SlippedStreams" 107 "SlippedStreams$ValueStream" "left" "I" ∈ q_big := q_mem 263 (by decide +kernel) rfl
theorem k_264 : Cond.sameField "SlippedStreams$ValueStream" "SlippedStreams$Stream" "left" "I" ∈ q_big := q_mem 264 (by decide +kernel) rfl
theorem k_265 : Cond.fieldLink "SlippedStreams$Run" 15 "SlippedStreams$Run" "program" "LSlippedStreams$Program;" ∈ q_big := q_mem 265 (by decide +kernel) rfl
theorem k_266 : Cond.fieldLink "SlippedStreams$AddressStream" 29 "SlippedStreams$AddressStream" "program" "LSlippedStreams$Program;" ∈ q_big := q_mem 266 (by decide +kernel) rfl
theorem k_267 : Cond.sameField "SlippedStreams$AddressStream" "SlippedStreams$Run" "program" "LSlippedStreams$Program;" ∈ q_big := q_mem 267 (by decide +kernel) rfl
theorem k_268 : Cond.fieldLink "SlippedStreams$ValueStream" 36 "SlippedStreams$ValueStream" "program" "LSlippedStreams$Program;" ∈ q_big := q_mem 268 (by decide +kernel) rfl
theorem k_269 : Cond.sameField "SlippedStreams$ValueStream" "SlippedStreams$Run" "program" "LSlippedStreams$Program;" ∈ q_big := q_mem 269 (by decide +kernel) rfl
theorem k_270 : Cond.fieldLink "SlippedStreams$PlainRun" 50 "SlippedStreams$PlainRun" "program" "LSlippedStreams$Program;" ∈ q_big := q_mem 270 (by decide +kernel) rfl
theorem k_271 : Cond.sameField "SlippedStreams$PlainRun" "SlippedStreams$Run" "program" "LSlippedStreams$Program;" ∈ q_big := q_mem 271 (by decide +kernel) rfl
theorem k_272 : Cond.fieldLink "SlippedStreams$Stream" 62 "SlippedStreams$Stream" "program" "LSlippedStreams$Program;" ∈ q_big := q_mem 272 (by decide +kernel) rfl
theorem k_273 : Cond.sameField "SlippedStreams$Stream" "SlippedStreams$Run" "program" "LSlippedStreams$Program;" ∈ q_big := q_mem 273 (by decide +kernel) rfl
theorem k_274 : Cond.fieldLink "SlippedStreams$Run" 9 "SlippedStreams$Run" "registers" "[I" ∈ q_big := q_mem 274 (by decide +kernel) rfl
theorem k_275 : Cond.fieldLink "SlippedStreams$Stream" 17 "SlippedStreams$Stream" "registers" "[I" ∈ q_big := q_mem 275 (by decide +kernel) rfl
theorem k_276 : Cond.sameField "SlippedStreams$Stream" "SlippedStreams$Run" "registers" "[I" ∈ q_big := q_mem 276 (by decide +kernel) rfl
theorem k_277 : Cond.fieldLink "SlippedStreams$PlainRun" 30 "SlippedStreams$PlainRun" "registers" "[I" ∈ q_big := q_mem 277 (by decide +kernel) rfl
theorem k_278 : Cond.sameField "SlippedStreams$PlainRun" "SlippedStreams$Run" "registers" "[I" ∈ q_big := q_mem 278 (by decide +kernel) rfl
theorem k_279 : Cond.fieldLink "SlippedStreams$ValueStream" 86 "SlippedStreams$ValueStream" "registers" "[I" ∈ q_big := q_mem 279 (by decide +kernel) rfl
theorem k_280 : Cond.sameField "SlippedStreams$ValueStream" "SlippedStreams$Run" "registers" "[I" ∈ q_big := q_mem 280 (by decide +kernel) rfl
theorem k_281 : Cond.fieldLink "SlippedStreams$AddressStream" 102 "SlippedStreams$AddressStream" "registers" "[I" ∈ q_big := q_mem 281 (by decide +kernel) rfl
theorem k_282 : Cond.sameField "SlippedStreams$AddressStream" "SlippedStreams$Run" "registers" "[I" ∈ q_big := q_mem 282 (by decide +kernel) rfl
theorem k_283 : Cond.fieldLink "SlippedStreams" 137 "SlippedStreams$PlainRun" "registers" "[I" ∈ q_big := q_mem 283 (by decide +kernel) rfl
theorem k_284 : Cond.fieldLink "SlippedStreams" 143 "SlippedStreams$AddressStream" "registers" "[I" ∈ q_big := q_mem 284 (by decide +kernel) rfl
theorem k_285 : Cond.fieldLink "SlippedStreams" 144 "SlippedStreams$ValueStream" "registers" "[I" ∈ q_big := q_mem 285 (by decide +kernel) rfl
theorem k_286 : Cond.fieldLink "SlippedStreams$Stream" 31 "SlippedStreams$Stream" "at" "I" ∈ q_big := q_mem 286 (by decide +kernel) rfl
theorem k_287 : Cond.sameField "SlippedStreams$Stream" "SlippedStreams$Run" "at" "I" ∈ q_big := q_mem 287 (by decide +kernel) rfl
theorem k_288 : Cond.fieldLink "SlippedStreams$PlainRun" 42 "SlippedStreams$PlainRun" "at" "I" ∈ q_big := q_mem 288 (by decide +kernel) rfl
theorem k_289 : Cond.sameField "SlippedStreams$PlainRun" "SlippedStreams$Run" "at" "I" ∈ q_big := q_mem 289 (by decide +kernel) rfl
theorem k_290 : Cond.fieldLink "SlippedStreams$AddressStream" 37 "SlippedStreams$AddressStream" "at" "I" ∈ q_big := q_mem 290 (by decide +kernel) rfl
theorem k_291 : Cond.sameField "SlippedStreams$AddressStream" "SlippedStreams$Run" "at" "I" ∈ q_big := q_mem 291 (by decide +kernel) rfl
theorem k_292 : Cond.fieldLink "SlippedStreams$ValueStream" 44 "SlippedStreams$ValueStream" "at" "I" ∈ q_big := q_mem 292 (by decide +kernel) rfl
theorem k_293 : Cond.sameField "SlippedStreams$ValueStream" "SlippedStreams$Run" "at" "I" ∈ q_big := q_mem 293 (by decide +kernel) rfl
theorem k_294 : Cond.fieldLink "SlippedStreams$Run" 23 "SlippedStreams$Run" "at" "I" ∈ q_big := q_mem 294 (by decide +kernel) rfl
theorem k_295 : Cond.lays "SlippedStreams$AddressStream" "SlippedStreams$AddressStream" "handed" "Z" ∈ q_big := q_mem 295 (by decide +kernel) rfl
theorem k_297 : Cond.laysFinal "SlippedStreams$AddressStream" "SlippedStreams$Stream" "link" "LSlippedStreams$Link;" ∈ q_big := q_mem 297 (by decide +kernel) rfl
theorem k_299 : Cond.laysFinal "SlippedStreams$AddressStream" "SlippedStreams$Stream" "nothings" "[Z" ∈ q_big := q_mem 299 (by decide +kernel) rfl
theorem k_301 : Cond.lays "SlippedStreams$AddressStream" "SlippedStreams$Stream" "left" "I" ∈ q_big := q_mem 301 (by decide +kernel) rfl
theorem k_303 : Cond.laysFinal "SlippedStreams$AddressStream" "SlippedStreams$Run" "program" "LSlippedStreams$Program;" ∈ q_big := q_mem 303 (by decide +kernel) rfl
theorem k_305 : Cond.laysFinal "SlippedStreams$AddressStream" "SlippedStreams$Run" "registers" "[I" ∈ q_big := q_mem 305 (by decide +kernel) rfl
theorem k_307 : Cond.lays "SlippedStreams$AddressStream" "SlippedStreams$Run" "at" "I" ∈ q_big := q_mem 307 (by decide +kernel) rfl
theorem k_309 : Cond.superclass "SlippedStreams$AddressStream" "SlippedStreams$Stream" ∈ q_big := q_mem 309 (by decide +kernel) rfl
theorem k_322 : Cond.fieldLink "SlippedStreams$Written" 9 "SlippedStreams$Written" "kept" "[I" ∈ q_big := q_mem 322 (by decide +kernel) rfl
theorem k_323 : Cond.fieldLink "SlippedStreams$Written" 15 "SlippedStreams$Written" "count" "I" ∈ q_big := q_mem 323 (by decide +kernel) rfl
theorem k_324 : Cond.fieldLink "SlippedStreams" 157 "SlippedStreams$Written" "count" "I" ∈ q_big := q_mem 324 (by decide +kernel) rfl
theorem k_325 : Cond.laysFinal "SlippedStreams$Written" "SlippedStreams$Written" "kept" "[I" ∈ q_big := q_mem 325 (by decide +kernel) rfl
theorem k_327 : Cond.lays "SlippedStreams$Written" "SlippedStreams$Written" "count" "I" ∈ q_big := q_mem 327 (by decide +kernel) rfl
theorem k_330 : Cond.fieldLink "SlippedStreams$ValueStream" 20 "SlippedStreams$ValueStream" "written" "LSlippedStreams$Written;" ∈ q_big := q_mem 330 (by decide +kernel) rfl
theorem k_331 : Cond.fieldLink "SlippedStreams" 162 "SlippedStreams$ValueStream" "written" "LSlippedStreams$Written;" ∈ q_big := q_mem 331 (by decide +kernel) rfl
theorem k_332 : Cond.laysFinal "SlippedStreams$ValueStream" "SlippedStreams$ValueStream" "written" "LSlippedStreams$Written;" ∈ q_big := q_mem 332 (by decide +kernel) rfl
theorem k_334 : Cond.laysFinal "SlippedStreams$ValueStream" "SlippedStreams$Stream" "link" "LSlippedStreams$Link;" ∈ q_big := q_mem 334 (by decide +kernel) rfl
theorem k_335 : Cond.laysFinal "SlippedStreams$ValueStream" "SlippedStreams$Stream" "nothings" "[Z" ∈ q_big := q_mem 335 (by decide +kernel) rfl
theorem k_336 : Cond.lays "SlippedStreams$ValueStream" "SlippedStreams$Stream" "left" "I" ∈ q_big := q_mem 336 (by decide +kernel) rfl
theorem k_337 : Cond.laysFinal "SlippedStreams$ValueStream" "SlippedStreams$Run" "program" "LSlippedStreams$Program;" ∈ q_big := q_mem 337 (by decide +kernel) rfl
theorem k_338 : Cond.laysFinal "SlippedStreams$ValueStream" "SlippedStreams$Run" "registers" "[I" ∈ q_big := q_mem 338 (by decide +kernel) rfl
theorem k_339 : Cond.lays "SlippedStreams$ValueStream" "SlippedStreams$Run" "at" "I" ∈ q_big := q_mem 339 (by decide +kernel) rfl
theorem k_340 : Cond.superclass "SlippedStreams$ValueStream" "SlippedStreams$Stream" ∈ q_big := q_mem 340 (by decide +kernel) rfl
theorem k_349 : Cond.fieldLink "SlippedStreams$PlainRun" 9 "SlippedStreams$PlainRun" "memory" "[I" ∈ q_big := q_mem 349 (by decide +kernel) rfl
theorem k_350 : Cond.fieldLink "SlippedStreams" 145 "SlippedStreams$PlainRun" "memory" "[I" ∈ q_big := q_mem 350 (by decide +kernel) rfl
theorem k_351 : Cond.fieldLink "SlippedStreams$PlainRun" 20 "SlippedStreams$PlainRun" "written" "LSlippedStreams$Written;" ∈ q_big := q_mem 351 (by decide +kernel) rfl
theorem k_352 : Cond.fieldLink "SlippedStreams" 153 "SlippedStreams$PlainRun" "written" "LSlippedStreams$Written;" ∈ q_big := q_mem 352 (by decide +kernel) rfl
theorem k_353 : Cond.laysFinal "SlippedStreams$PlainRun" "SlippedStreams$PlainRun" "memory" "[I" ∈ q_big := q_mem 353 (by decide +kernel) rfl
theorem k_355 : Cond.laysFinal "SlippedStreams$PlainRun" "SlippedStreams$PlainRun" "written" "LSlippedStreams$Written;" ∈ q_big := q_mem 355 (by decide +kernel) rfl
theorem k_357 : Cond.laysFinal "SlippedStreams$PlainRun" "SlippedStreams$Run" "program" "LSlippedStreams$Program;" ∈ q_big := q_mem 357 (by decide +kernel) rfl
theorem k_358 : Cond.laysFinal "SlippedStreams$PlainRun" "SlippedStreams$Run" "registers" "[I" ∈ q_big := q_mem 358 (by decide +kernel) rfl
theorem k_359 : Cond.lays "SlippedStreams$PlainRun" "SlippedStreams$Run" "at" "I" ∈ q_big := q_mem 359 (by decide +kernel) rfl
theorem k_361 : Cond.fieldLink "SlippedStreams" 10 "SlippedStreams" "program" "LSlippedStreams$Program;" ∈ q_big := q_mem 361 (by decide +kernel) rfl
theorem k_362 : Cond.fieldLink "SlippedStreams" 16 "SlippedStreams" "filled" "[I" ∈ q_big := q_mem 362 (by decide +kernel) rfl
theorem k_363 : Cond.fieldLink "SlippedStreams" 23 "SlippedStreams" "link" "LSlippedStreams$Link;" ∈ q_big := q_mem 363 (by decide +kernel) rfl
theorem k_364 : Cond.fieldLink "SlippedStreams" 32 "SlippedStreams" "addressStream" "LSlippedStreams$AddressStream;" ∈ q_big := q_mem 364 (by decide +kernel) rfl
theorem k_365 : Cond.fieldLink "SlippedStreams" 39 "SlippedStreams" "valueStream" "LSlippedStreams$ValueStream;" ∈ q_big := q_mem 365 (by decide +kernel) rfl
theorem k_366 : Cond.fieldLink "SlippedStreams" 48 "SlippedStreams" "plainRun" "LSlippedStreams$PlainRun;" ∈ q_big := q_mem 366 (by decide +kernel) rfl
theorem k_367 : Cond.fieldLink "SlippedStreams" 149 "SlippedStreams" "lost" "I" ∈ q_big := q_mem 367 (by decide +kernel) rfl
theorem k_368 : Cond.laysFinal "SlippedStreams" "SlippedStreams" "program" "LSlippedStreams$Program;" ∈ q_big := q_mem 368 (by decide +kernel) rfl
theorem k_370 : Cond.laysFinal "SlippedStreams" "SlippedStreams" "filled" "[I" ∈ q_big := q_mem 370 (by decide +kernel) rfl
theorem k_372 : Cond.laysFinal "SlippedStreams" "SlippedStreams" "link" "LSlippedStreams$Link;" ∈ q_big := q_mem 372 (by decide +kernel) rfl
theorem k_374 : Cond.laysFinal "SlippedStreams" "SlippedStreams" "addressStream" "LSlippedStreams$AddressStream;" ∈ q_big := q_mem 374 (by decide +kernel) rfl
theorem k_376 : Cond.laysFinal "SlippedStreams" "SlippedStreams" "valueStream" "LSlippedStreams$ValueStream;" ∈ q_big := q_mem 376 (by decide +kernel) rfl
theorem k_378 : Cond.laysFinal "SlippedStreams" "SlippedStreams" "plainRun" "LSlippedStreams$PlainRun;" ∈ q_big := q_mem 378 (by decide +kernel) rfl
theorem k_380 : Cond.lays "SlippedStreams" "SlippedStreams" "lost" "I" ∈ q_big := q_mem 380 (by decide +kernel) rfl
theorem k_387 : Cond.methodLink "SlippedStreams" 56 ⟨"SlippedStreams$Program", "isSound", "(IIII)Z"⟩ ∈ q_big := q_mem 387 (by decide +kernel) rfl
theorem k_388 : Cond.static ⟨"SlippedStreams$Program", "isSound", "(IIII)Z"⟩ ∈ q_big := q_mem 388 (by decide +kernel) rfl
set_option maxRecDepth 100000 in
theorem k_389 : Cond.code ⟨"SlippedStreams$Program", "isSound", "(IIII)Z"⟩ prog_6_method_2_code 4 (some .boolean) ∈ q_big := q_mem 389 (rfl) rfl
theorem k_391 : Cond.static ⟨"SlippedStreams", "isRegister", "(I)Z"⟩ ∈ q_big := q_mem 391 (by decide +kernel) rfl
set_option maxRecDepth 100000 in
theorem k_392 : Cond.code ⟨"SlippedStreams", "isRegister", "(I)Z"⟩ prog_1_method_23_code 1 (some .boolean) ∈ q_big := q_mem 392 (rfl) rfl
theorem k_393 : Cond.methodLink "SlippedStreams" 60 ⟨"SlippedStreams$Program", "append", "(IIII)I"⟩ ∈ q_big := q_mem 393 (by decide +kernel) rfl
theorem k_394 : Cond.instanceMethod ⟨"SlippedStreams$Program", "append", "(IIII)I"⟩ ∈ q_big := q_mem 394 (by decide +kernel) rfl
theorem k_395 : Cond.selects "SlippedStreams$Program" ⟨"SlippedStreams$Program", "append", "(IIII)I"⟩ ⟨"SlippedStreams$Program", "append", "(IIII)I"⟩ ∈ q_big := q_mem 395 (by decide +kernel) rfl
set_option maxRecDepth 100000 in
theorem k_396 : Cond.code ⟨"SlippedStreams$Program", "append", "(IIII)I"⟩ prog_6_method_3_code 6 (some .int) ∈ q_big := q_mem 396 (rfl) rfl
theorem k_397 : Cond.methodLink "SlippedStreams$Program" 51 ⟨"SlippedStreams$Program", "slice", "()V"⟩ ∈ q_big := q_mem 397 (by decide +kernel) rfl
theorem k_399 : Cond.instanceMethod ⟨"SlippedStreams$Program", "slice", "()V"⟩ ∈ q_big := q_mem 399 (by decide +kernel) rfl
set_option maxRecDepth 100000 in
theorem k_400 : Cond.code ⟨"SlippedStreams$Program", "slice", "()V"⟩ prog_6_method_8_code 2 none ∈ q_big := q_mem 400 (rfl) rfl
theorem k_401 : Cond.methodLink "SlippedStreams$Program" 57 ⟨"SlippedStreams$Program", "findAddressRegisters", "()V"⟩ ∈ q_big := q_mem 401 (by decide +kernel) rfl
theorem k_403 : Cond.instanceMethod ⟨"SlippedStreams$Program", "findAddressRegisters", "()V"⟩ ∈ q_big := q_mem 403 (by decide +kernel) rfl
set_option maxRecDepth 100000 in
theorem k_404 : Cond.code ⟨"SlippedStreams$Program", "findAddressRegisters", "()V"⟩ prog_6_method_9_code 3 none ∈ q_big := q_mem 404 (rfl) rfl
theorem k_405 : Cond.methodLink "SlippedStreams$Program" 70 ⟨"SlippedStreams$Program", "isArithmetic", "(I)Z"⟩ ∈ q_big := q_mem 405 (by decide +kernel) rfl
theorem k_406 : Cond.instanceMethod ⟨"SlippedStreams$Program", "isArithmetic", "(I)Z"⟩ ∈ q_big := q_mem 406 (by decide +kernel) rfl
theorem k_407 : Cond.selects "SlippedStreams$Program" ⟨"SlippedStreams$Program", "isArithmetic", "(I)Z"⟩ ⟨"SlippedStreams$Program", "isArithmetic", "(I)Z"⟩ ∈ q_big := q_mem 407 (by decide +kernel) rfl
set_option maxRecDepth 100000 in
theorem k_408 : Cond.code ⟨"SlippedStreams$Program", "isArithmetic", "(I)Z"⟩ prog_6_method_6_code 2 (some .boolean) ∈ q_big := q_mem 408 (rfl) rfl
theorem k_409 : Cond.methodLink "SlippedStreams$Program" 73 ⟨"SlippedStreams$Program", "isAddressRegister", "(I)Z"⟩ ∈ q_big := q_mem 409 (by decide +kernel) rfl
theorem k_410 : Cond.instanceMethod ⟨"SlippedStreams$Program", "isAddressRegister", "(I)Z"⟩ ∈ q_big := q_mem 410 (by decide +kernel) rfl
theorem k_411 : Cond.selects "SlippedStreams$Program" ⟨"SlippedStreams$Program", "isAddressRegister", "(I)Z"⟩ ⟨"SlippedStreams$Program", "isAddressRegister", "(I)Z"⟩ ∈ q_big := q_mem 411 (by decide +kernel) rfl
set_option maxRecDepth 100000 in
theorem k_412 : Cond.code ⟨"SlippedStreams$Program", "isAddressRegister", "(I)Z"⟩ prog_6_method_5_code 2 (some .boolean) ∈ q_big := q_mem 412 (rfl) rfl
theorem k_413 : Cond.methodLink "SlippedStreams$Program" 60 ⟨"SlippedStreams$Program", "belongsToAddresses", "(I)Z"⟩ ∈ q_big := q_mem 413 (by decide +kernel) rfl
theorem k_415 : Cond.instanceMethod ⟨"SlippedStreams$Program", "belongsToAddresses", "(I)Z"⟩ ∈ q_big := q_mem 415 (by decide +kernel) rfl
set_option maxRecDepth 100000 in
theorem k_416 : Cond.code ⟨"SlippedStreams$Program", "belongsToAddresses", "(I)Z"⟩ prog_6_method_10_code 2 (some .boolean) ∈ q_big := q_mem 416 (rfl) rfl
theorem k_417 : Cond.methodLink "SlippedStreams$Program" 76 ⟨"SlippedStreams$Program", "isBranch", "(I)Z"⟩ ∈ q_big := q_mem 417 (by decide +kernel) rfl
theorem k_418 : Cond.instanceMethod ⟨"SlippedStreams$Program", "isBranch", "(I)Z"⟩ ∈ q_big := q_mem 418 (by decide +kernel) rfl
theorem k_419 : Cond.selects "SlippedStreams$Program" ⟨"SlippedStreams$Program", "isBranch", "(I)Z"⟩ ⟨"SlippedStreams$Program", "isBranch", "(I)Z"⟩ ∈ q_big := q_mem 419 (by decide +kernel) rfl
set_option maxRecDepth 100000 in
theorem k_420 : Cond.code ⟨"SlippedStreams$Program", "isBranch", "(I)Z"⟩ prog_6_method_7_code 2 (some .boolean) ∈ q_big := q_mem 420 (rfl) rfl
theorem k_421 : Cond.methodLink "SlippedStreams$Program" 63 ⟨"SlippedStreams$Program", "findPassed", "(I)V"⟩ ∈ q_big := q_mem 421 (by decide +kernel) rfl
theorem k_423 : Cond.instanceMethod ⟨"SlippedStreams$Program", "findPassed", "(I)V"⟩ ∈ q_big := q_mem 423 (by decide +kernel) rfl
set_option maxRecDepth 100000 in
theorem k_424 : Cond.code ⟨"SlippedStreams$Program", "findPassed", "(I)V"⟩ prog_6_method_11_code 5 none ∈ q_big := q_mem 424 (rfl) rfl
theorem k_425 : Cond.methodLink "SlippedStreams$Program" 79 ⟨"SlippedStreams$Program", "firstRead", "(I)I"⟩ ∈ q_big := q_mem 425 (by decide +kernel) rfl
theorem k_427 : Cond.instanceMethod ⟨"SlippedStreams$Program", "firstRead", "(I)I"⟩ ∈ q_big := q_mem 427 (by decide +kernel) rfl
set_option maxRecDepth 100000 in
theorem k_428 : Cond.code ⟨"SlippedStreams$Program", "firstRead", "(I)I"⟩ prog_6_method_13_code 2 (some .int) ∈ q_big := q_mem 428 (rfl) rfl
theorem k_429 : Cond.methodLink "SlippedStreams$Program" 83 ⟨"SlippedStreams$Program", "secondRead", "(I)I"⟩ ∈ q_big := q_mem 429 (by decide +kernel) rfl
theorem k_431 : Cond.instanceMethod ⟨"SlippedStreams$Program", "secondRead", "(I)I"⟩ ∈ q_big := q_mem 431 (by decide +kernel) rfl
set_option maxRecDepth 100000 in
theorem k_432 : Cond.code ⟨"SlippedStreams$Program", "secondRead", "(I)I"⟩ prog_6_method_14_code 2 (some .int) ∈ q_big := q_mem 432 (rfl) rfl
theorem k_433 : Cond.methodLink "SlippedStreams$Program" 67 ⟨"SlippedStreams$Program", "findNothings", "(I)V"⟩ ∈ q_big := q_mem 433 (by decide +kernel) rfl
theorem k_435 : Cond.instanceMethod ⟨"SlippedStreams$Program", "findNothings", "(I)V"⟩ ∈ q_big := q_mem 435 (by decide +kernel) rfl
set_option maxRecDepth 100000 in
theorem k_436 : Cond.code ⟨"SlippedStreams$Program", "findNothings", "(I)V"⟩ prog_6_method_12_code 4 none ∈ q_big := q_mem 436 (rfl) rfl
theorem k_437 : Cond.methodLink "SlippedStreams" 64 ⟨"SlippedStreams", "beginAnew", "()V"⟩ ∈ q_big := q_mem 437 (by decide +kernel) rfl
theorem k_439 : Cond.instanceMethod ⟨"SlippedStreams", "beginAnew", "()V"⟩ ∈ q_big := q_mem 439 (by decide +kernel) rfl
set_option maxRecDepth 100000 in
theorem k_440 : Cond.code ⟨"SlippedStreams", "beginAnew", "()V"⟩ prog_1_method_20_code 1 none ∈ q_big := q_mem 440 (rfl) rfl
theorem k_441 : Cond.methodLink "SlippedStreams" 166 ⟨"SlippedStreams$Link", "begin", "([I)V"⟩ ∈ q_big := q_mem 441 (by decide +kernel) rfl
theorem k_442 : Cond.instanceMethod ⟨"SlippedStreams$Link", "begin", "([I)V"⟩ ∈ q_big := q_mem 442 (by decide +kernel) rfl
theorem k_443 : Cond.selects "SlippedStreams$Link" ⟨"SlippedStreams$Link", "begin", "([I)V"⟩ ⟨"SlippedStreams$Link", "begin", "([I)V"⟩ ∈ q_big := q_mem 443 (by decide +kernel) rfl
set_option maxRecDepth 100000 in
theorem k_444 : Cond.code ⟨"SlippedStreams$Link", "begin", "([I)V"⟩ prog_4_method_2_code 2 none ∈ q_big := q_mem 444 (rfl) rfl
theorem k_445 : Cond.methodLink "SlippedStreams$Link" 45 ⟨"java/lang/System", "arraycopy", "(Ljava/lang/Object;ILjava/lang/Object;II)V"⟩ ∈ q_big := q_mem 445 (by decide +kernel) rfl
theorem k_446 : Cond.static ⟨"java/lang/System", "arraycopy", "(Ljava/lang/Object;ILjava/lang/Object;II)V"⟩ ∈ q_big := q_mem 446 (by decide +kernel) rfl
theorem k_447 : Cond.native ⟨"java/lang/System", "arraycopy", "(Ljava/lang/Object;ILjava/lang/Object;II)V"⟩ ∈ q_big := q_mem 447 (by decide +kernel) rfl
theorem k_448 : Cond.methodLink "SlippedStreams$Link" 51 ⟨"SlippedStreams$Fifo", "empty", "()V"⟩ ∈ q_big := q_mem 448 (by decide +kernel) rfl
theorem k_449 : Cond.instanceMethod ⟨"SlippedStreams$Fifo", "empty", "()V"⟩ ∈ q_big := q_mem 449 (by decide +kernel) rfl
theorem k_450 : Cond.selects "SlippedStreams$Fifo" ⟨"SlippedStreams$Fifo", "empty", "()V"⟩ ⟨"SlippedStreams$Fifo", "empty", "()V"⟩ ∈ q_big := q_mem 450 (by decide +kernel) rfl
set_option maxRecDepth 100000 in
theorem k_451 : Cond.code ⟨"SlippedStreams$Fifo", "empty", "()V"⟩ prog_3_method_2_code 1 none ∈ q_big := q_mem 451 (rfl) rfl
theorem k_452 : Cond.methodLink "SlippedStreams$Link" 54 ⟨"SlippedStreams$StoreList", "empty", "()V"⟩ ∈ q_big := q_mem 452 (by decide +kernel) rfl
theorem k_453 : Cond.instanceMethod ⟨"SlippedStreams$StoreList", "empty", "()V"⟩ ∈ q_big := q_mem 453 (by decide +kernel) rfl
theorem k_454 : Cond.selects "SlippedStreams$StoreList" ⟨"SlippedStreams$StoreList", "empty", "()V"⟩ ⟨"SlippedStreams$StoreList", "empty", "()V"⟩ ∈ q_big := q_mem 454 (by decide +kernel) rfl
set_option maxRecDepth 100000 in
theorem k_455 : Cond.code ⟨"SlippedStreams$StoreList", "empty", "()V"⟩ prog_8_method_2_code 1 none ∈ q_big := q_mem 455 (rfl) rfl
theorem k_456 : Cond.methodLink "SlippedStreams" 170 ⟨"SlippedStreams$AddressStream", "begin", "()V"⟩ ∈ q_big := q_mem 456 (by decide +kernel) rfl
theorem k_457 : Cond.instanceMethod ⟨"SlippedStreams$AddressStream", "begin", "()V"⟩ ∈ q_big := q_mem 457 (by decide +kernel) rfl
theorem k_458 : Cond.selects "SlippedStreams$AddressStream" ⟨"SlippedStreams$AddressStream", "begin", "()V"⟩ ⟨"SlippedStreams$AddressStream", "begin", "()V"⟩ ∈ q_big := q_mem 458 (by decide +kernel) rfl
set_option maxRecDepth 100000 in
theorem k_459 : Cond.code ⟨"SlippedStreams$AddressStream", "begin", "()V"⟩ prog_2_method_2_code 1 none ∈ q_big := q_mem 459 (rfl) rfl
theorem k_460 : Cond.methodLink "SlippedStreams$AddressStream" 21 ⟨"SlippedStreams$Stream", "begin", "()V"⟩ ∈ q_big := q_mem 460 (by decide +kernel) rfl
theorem k_461 : Cond.instanceMethod ⟨"SlippedStreams$Stream", "begin", "()V"⟩ ∈ q_big := q_mem 461 (by decide +kernel) rfl
set_option maxRecDepth 100000 in
theorem k_462 : Cond.code ⟨"SlippedStreams$Stream", "begin", "()V"⟩ prog_9_method_2_code 1 none ∈ q_big := q_mem 462 (rfl) rfl
theorem k_463 : Cond.methodLink "SlippedStreams$Stream" 21 ⟨"java/util/Arrays", "fill", "([II)V"⟩ ∈ q_big := q_mem 463 (by decide +kernel) rfl
theorem k_464 : Cond.static ⟨"java/util/Arrays", "fill", "([II)V"⟩ ∈ q_big := q_mem 464 (by decide +kernel) rfl
set_option maxRecDepth 100000 in
theorem k_465 : Cond.code ⟨"java/util/Arrays", "fill", "([II)V"⟩ prog_17_method_103_code 4 none ∈ q_big := q_mem 465 (rfl) rfl
theorem k_466 : Cond.methodLink "SlippedStreams$Stream" 34 ⟨"SlippedStreams$Stream", "goOver", "()V"⟩ ∈ q_big := q_mem 466 (by decide +kernel) rfl
theorem k_468 : Cond.instanceMethod ⟨"SlippedStreams$Stream", "goOver", "()V"⟩ ∈ q_big := q_mem 468 (by decide +kernel) rfl
set_option maxRecDepth 100000 in
theorem k_469 : Cond.code ⟨"SlippedStreams$Stream", "goOver", "()V"⟩ prog_9_method_6_code 1 none ∈ q_big := q_mem 469 (rfl) rfl
theorem k_470 : Cond.methodLink "SlippedStreams" 172 ⟨"SlippedStreams$ValueStream", "begin", "()V"⟩ ∈ q_big := q_mem 470 (by decide +kernel) rfl
theorem k_471 : Cond.instanceMethod ⟨"SlippedStreams$ValueStream", "begin", "()V"⟩ ∈ q_big := q_mem 471 (by decide +kernel) rfl
theorem k_472 : Cond.selects "SlippedStreams$ValueStream" ⟨"SlippedStreams$ValueStream", "begin", "()V"⟩ ⟨"SlippedStreams$ValueStream", "begin", "()V"⟩ ∈ q_big := q_mem 472 (by decide +kernel) rfl
set_option maxRecDepth 100000 in
theorem k_473 : Cond.code ⟨"SlippedStreams$ValueStream", "begin", "()V"⟩ prog_10_method_2_code 1 none ∈ q_big := q_mem 473 (rfl) rfl
theorem k_474 : Cond.methodLink "SlippedStreams$ValueStream" 26 ⟨"SlippedStreams$Written", "empty", "()V"⟩ ∈ q_big := q_mem 474 (by decide +kernel) rfl
theorem k_475 : Cond.instanceMethod ⟨"SlippedStreams$Written", "empty", "()V"⟩ ∈ q_big := q_mem 475 (by decide +kernel) rfl
theorem k_476 : Cond.selects "SlippedStreams$Written" ⟨"SlippedStreams$Written", "empty", "()V"⟩ ⟨"SlippedStreams$Written", "empty", "()V"⟩ ∈ q_big := q_mem 476 (by decide +kernel) rfl
set_option maxRecDepth 100000 in
theorem k_477 : Cond.code ⟨"SlippedStreams$Written", "empty", "()V"⟩ prog_11_method_2_code 1 none ∈ q_big := q_mem 477 (rfl) rfl
theorem k_478 : Cond.methodLink "SlippedStreams$ValueStream" 29 ⟨"SlippedStreams$Stream", "begin", "()V"⟩ ∈ q_big := q_mem 478 (by decide +kernel) rfl
theorem k_479 : Cond.methodLink "SlippedStreams" 173 ⟨"SlippedStreams$PlainRun", "begin", "([I)V"⟩ ∈ q_big := q_mem 479 (by decide +kernel) rfl
theorem k_480 : Cond.instanceMethod ⟨"SlippedStreams$PlainRun", "begin", "([I)V"⟩ ∈ q_big := q_mem 480 (by decide +kernel) rfl
theorem k_481 : Cond.selects "SlippedStreams$PlainRun" ⟨"SlippedStreams$PlainRun", "begin", "([I)V"⟩ ⟨"SlippedStreams$PlainRun", "begin", "([I)V"⟩ ∈ q_big := q_mem 481 (by decide +kernel) rfl
set_option maxRecDepth 100000 in
theorem k_482 : Cond.code ⟨"SlippedStreams$PlainRun", "begin", "([I)V"⟩ prog_5_method_2_code 2 none ∈ q_big := q_mem 482 (rfl) rfl
theorem k_483 : Cond.methodLink "SlippedStreams$PlainRun" 24 ⟨"java/lang/System", "arraycopy", "(Ljava/lang/Object;ILjava/lang/Object;II)V"⟩ ∈ q_big := q_mem 483 (by decide +kernel) rfl
theorem k_484 : Cond.methodLink "SlippedStreams$PlainRun" 33 ⟨"java/util/Arrays", "fill", "([II)V"⟩ ∈ q_big := q_mem 484 (by decide +kernel) rfl
theorem k_485 : Cond.methodLink "SlippedStreams$PlainRun" 39 ⟨"SlippedStreams$Written", "empty", "()V"⟩ ∈ q_big := q_mem 485 (by decide +kernel) rfl
theorem k_494 : Cond.methodLink "SlippedStreams" 67 ⟨"SlippedStreams$Program", "removeAll", "()V"⟩ ∈ q_big := q_mem 494 (by decide +kernel) rfl
theorem k_495 : Cond.instanceMethod ⟨"SlippedStreams$Program", "removeAll", "()V"⟩ ∈ q_big := q_mem 495 (by decide +kernel) rfl
theorem k_496 : Cond.selects "SlippedStreams$Program" ⟨"SlippedStreams$Program", "removeAll", "()V"⟩ ⟨"SlippedStreams$Program", "removeAll", "()V"⟩ ∈ q_big := q_mem 496 (by decide +kernel) rfl
set_option maxRecDepth 100000 in
theorem k_497 : Cond.code ⟨"SlippedStreams$Program", "removeAll", "()V"⟩ prog_6_method_4_code 1 none ∈ q_big := q_mem 497 (rfl) rfl
theorem k_510 : Cond.methodLink "SlippedStreams" 76 ⟨"java/lang/Integer", "bitCount", "(I)I"⟩ ∈ q_big := q_mem 510 (by decide +kernel) rfl
theorem k_511 : Cond.static ⟨"java/lang/Integer", "bitCount", "(I)I"⟩ ∈ q_big := q_mem 511 (by decide +kernel) rfl
set_option maxRecDepth 100000 in
theorem k_512 : Cond.code ⟨"java/lang/Integer", "bitCount", "(I)I"⟩ prog_14_method_49_code 1 (some .int) ∈ q_big := q_mem 512 (rfl) rfl
theorem k_513 : Cond.constant "java/lang/Integer" 265 1431655765 ∈ q_big := q_mem 513 (by decide +kernel) rfl
theorem k_514 : Cond.constant "java/lang/Integer" 266 858993459 ∈ q_big := q_mem 514 (by decide +kernel) rfl
theorem k_515 : Cond.constant "java/lang/Integer" 267 252645135 ∈ q_big := q_mem 515 (by decide +kernel) rfl
theorem k_520 : Cond.methodLink "SlippedStreams" 82 ⟨"SlippedStreams", "isMoveCount", "(I)Z"⟩ ∈ q_big := q_mem 520 (by decide +kernel) rfl
theorem k_521 : Cond.static ⟨"SlippedStreams", "isMoveCount", "(I)Z"⟩ ∈ q_big := q_mem 521 (by decide +kernel) rfl
set_option maxRecDepth 100000 in
theorem k_522 : Cond.code ⟨"SlippedStreams", "isMoveCount", "(I)Z"⟩ prog_1_method_22_code 1 (some .boolean) ∈ q_big := q_mem 522 (rfl) rfl
theorem k_523 : Cond.methodLink "SlippedStreams" 86 ⟨"SlippedStreams$AddressStream", "advance", "(I)I"⟩ ∈ q_big := q_mem 523 (by decide +kernel) rfl
theorem k_524 : Cond.sameMethod "SlippedStreams$AddressStream" "SlippedStreams$Run" "advance" "(I)I" ∈ q_big := q_mem 524 (by decide +kernel) rfl
theorem k_526 : Cond.selects "SlippedStreams$AddressStream" ⟨"SlippedStreams$AddressStream", "advance", "(I)I"⟩ ⟨"SlippedStreams$Run", "advance", "(I)I"⟩ ∈ q_big := q_mem 526 (by decide +kernel) rfl
theorem k_527 : Cond.instanceMethod ⟨"SlippedStreams$Run", "advance", "(I)I"⟩ ∈ q_big := q_mem 527 (by decide +kernel) rfl
set_option maxRecDepth 100000 in
theorem k_528 : Cond.code ⟨"SlippedStreams$Run", "advance", "(I)I"⟩ prog_7_method_3_code 3 (some .int) ∈ q_big := q_mem 528 (rfl) rfl
theorem k_529 : Cond.methodLink "SlippedStreams$Run" 19 ⟨"SlippedStreams$Run", "step", "()Z"⟩ ∈ q_big := q_mem 529 (by decide +kernel) rfl
theorem k_531 : Cond.sameMethod "SlippedStreams$Run" "SlippedStreams$Run" "step" "()Z" ∈ q_big := q_mem 531 (by decide +kernel) rfl
theorem k_532 : Cond.selects "SlippedStreams$AddressStream" ⟨"SlippedStreams$Run", "step", "()Z"⟩ ⟨"SlippedStreams$AddressStream", "step", "()Z"⟩ ∈ q_big := q_mem 532 (by decide +kernel) rfl
theorem k_533 : Cond.instanceMethod ⟨"SlippedStreams$AddressStream", "step", "()Z"⟩ ∈ q_big := q_mem 533 (by decide +kernel) rfl
set_option maxRecDepth 100000 in
theorem k_534 : Cond.code ⟨"SlippedStreams$AddressStream", "step", "()Z"⟩ prog_2_method_3_code 1 (some .boolean) ∈ q_big := q_mem 534 (rfl) rfl
theorem k_535 : Cond.methodLink "SlippedStreams$AddressStream" 25 ⟨"SlippedStreams$AddressStream", "hasEnded", "()Z"⟩ ∈ q_big := q_mem 535 (by decide +kernel) rfl
theorem k_536 : Cond.sameMethod "SlippedStreams$AddressStream" "SlippedStreams$Run" "hasEnded" "()Z" ∈ q_big := q_mem 536 (by decide +kernel) rfl
theorem k_538 : Cond.selects "SlippedStreams$AddressStream" ⟨"SlippedStreams$AddressStream", "hasEnded", "()Z"⟩ ⟨"SlippedStreams$Run", "hasEnded", "()Z"⟩ ∈ q_big := q_mem 538 (by decide +kernel) rfl
theorem k_539 : Cond.instanceMethod ⟨"SlippedStreams$Run", "hasEnded", "()Z"⟩ ∈ q_big := q_mem 539 (by decide +kernel) rfl
set_option maxRecDepth 100000 in
theorem k_540 : Cond.code ⟨"SlippedStreams$Run", "hasEnded", "()Z"⟩ prog_7_method_4_code 1 (some .boolean) ∈ q_big := q_mem 540 (rfl) rfl
theorem k_541 : Cond.methodLink "SlippedStreams$AddressStream" 41 ⟨"SlippedStreams$AddressStream", "doOwn", "(I)Z"⟩ ∈ q_big := q_mem 541 (by decide +kernel) rfl
theorem k_543 : Cond.instanceMethod ⟨"SlippedStreams$AddressStream", "doOwn", "(I)Z"⟩ ∈ q_big := q_mem 543 (by decide +kernel) rfl
set_option maxRecDepth 100000 in
theorem k_544 : Cond.code ⟨"SlippedStreams$AddressStream", "doOwn", "(I)Z"⟩ prog_2_method_5_code 2 (some .boolean) ∈ q_big := q_mem 544 (rfl) rfl
theorem k_545 : Cond.methodLink "SlippedStreams$AddressStream" 57 ⟨"SlippedStreams$AddressStream", "load", "(I)Z"⟩ ∈ q_big := q_mem 545 (by decide +kernel) rfl
theorem k_547 : Cond.instanceMethod ⟨"SlippedStreams$AddressStream", "load", "(I)Z"⟩ ∈ q_big := q_mem 547 (by decide +kernel) rfl
set_option maxRecDepth 100000 in
theorem k_548 : Cond.code ⟨"SlippedStreams$AddressStream", "load", "(I)Z"⟩ prog_2_method_6_code 3 (some .boolean) ∈ q_big := q_mem 548 (rfl) rfl
theorem k_549 : Cond.methodLink "SlippedStreams$AddressStream" 89 ⟨"SlippedStreams$AddressStream", "wordAddress", "(I)I"⟩ ∈ q_big := q_mem 549 (by decide +kernel) rfl
theorem k_550 : Cond.sameMethod "SlippedStreams$AddressStream" "SlippedStreams$Run" "wordAddress" "(I)I" ∈ q_big := q_mem 550 (by decide +kernel) rfl
theorem k_552 : Cond.selects "SlippedStreams$AddressStream" ⟨"SlippedStreams$AddressStream", "wordAddress", "(I)I"⟩ ⟨"SlippedStreams$Run", "wordAddress", "(I)I"⟩ ∈ q_big := q_mem 552 (by decide +kernel) rfl
theorem k_553 : Cond.instanceMethod ⟨"SlippedStreams$Run", "wordAddress", "(I)I"⟩ ∈ q_big := q_mem 553 (by decide +kernel) rfl
set_option maxRecDepth 100000 in
theorem k_554 : Cond.code ⟨"SlippedStreams$Run", "wordAddress", "(I)I"⟩ prog_7_method_6_code 2 (some .int) ∈ q_big := q_mem 554 (rfl) rfl
theorem k_555 : Cond.methodLink "SlippedStreams$AddressStream" 97 ⟨"SlippedStreams$StoreList", "holds", "(I)Z"⟩ ∈ q_big := q_mem 555 (by decide +kernel) rfl
theorem k_556 : Cond.instanceMethod ⟨"SlippedStreams$StoreList", "holds", "(I)Z"⟩ ∈ q_big := q_mem 556 (by decide +kernel) rfl
theorem k_557 : Cond.selects "SlippedStreams$StoreList" ⟨"SlippedStreams$StoreList", "holds", "(I)Z"⟩ ⟨"SlippedStreams$StoreList", "holds", "(I)Z"⟩ ∈ q_big := q_mem 557 (by decide +kernel) rfl
set_option maxRecDepth 100000 in
theorem k_558 : Cond.code ⟨"SlippedStreams$StoreList", "holds", "(I)Z"⟩ prog_8_method_4_code 3 (some .boolean) ∈ q_big := q_mem 558 (rfl) rfl
theorem k_559 : Cond.methodLink "SlippedStreams$StoreList" 32 ⟨"SlippedStreams$StoreList", "slot", "(I)I"⟩ ∈ q_big := q_mem 559 (by decide +kernel) rfl
theorem k_561 : Cond.instanceMethod ⟨"SlippedStreams$StoreList", "slot", "(I)I"⟩ ∈ q_big := q_mem 561 (by decide +kernel) rfl
set_option maxRecDepth 100000 in
theorem k_562 : Cond.code ⟨"SlippedStreams$StoreList", "slot", "(I)I"⟩ prog_8_method_9_code 2 (some .int) ∈ q_big := q_mem 562 (rfl) rfl
theorem k_563 : Cond.methodLink "SlippedStreams$AddressStream" 86 ⟨"SlippedStreams$AddressStream", "leaveFor", "(I)Z"⟩ ∈ q_big := q_mem 563 (by decide +kernel) rfl
theorem k_564 : Cond.sameMethod "SlippedStreams$AddressStream" "SlippedStreams$Stream" "leaveFor" "(I)Z" ∈ q_big := q_mem 564 (by decide +kernel) rfl
theorem k_566 : Cond.selects "SlippedStreams$AddressStream" ⟨"SlippedStreams$AddressStream", "leaveFor", "(I)Z"⟩ ⟨"SlippedStreams$Stream", "leaveFor", "(I)Z"⟩ ∈ q_big := q_mem 566 (by decide +kernel) rfl
theorem k_567 : Cond.instanceMethod ⟨"SlippedStreams$Stream", "leaveFor", "(I)Z"⟩ ∈ q_big := q_mem 567 (by decide +kernel) rfl
set_option maxRecDepth 100000 in
theorem k_568 : Cond.code ⟨"SlippedStreams$Stream", "leaveFor", "(I)Z"⟩ prog_9_method_3_code 2 (some .boolean) ∈ q_big := q_mem 568 (rfl) rfl
theorem k_569 : Cond.methodLink "SlippedStreams$AddressStream" 60 ⟨"SlippedStreams$AddressStream", "store", "(I)Z"⟩ ∈ q_big := q_mem 569 (by decide +kernel) rfl
theorem k_571 : Cond.instanceMethod ⟨"SlippedStreams$AddressStream", "store", "(I)Z"⟩ ∈ q_big := q_mem 571 (by decide +kernel) rfl
set_option maxRecDepth 100000 in
theorem k_572 : Cond.code ⟨"SlippedStreams$AddressStream", "store", "(I)Z"⟩ prog_2_method_7_code 3 (some .boolean) ∈ q_big := q_mem 572 (rfl) rfl
theorem k_573 : Cond.methodLink "SlippedStreams$AddressStream" 111 ⟨"SlippedStreams$StoreList", "isFull", "()Z"⟩ ∈ q_big := q_mem 573 (by decide +kernel) rfl
theorem k_574 : Cond.instanceMethod ⟨"SlippedStreams$StoreList", "isFull", "()Z"⟩ ∈ q_big := q_mem 574 (by decide +kernel) rfl
theorem k_575 : Cond.selects "SlippedStreams$StoreList" ⟨"SlippedStreams$StoreList", "isFull", "()Z"⟩ ⟨"SlippedStreams$StoreList", "isFull", "()Z"⟩ ∈ q_big := q_mem 575 (by decide +kernel) rfl
set_option maxRecDepth 100000 in
theorem k_576 : Cond.code ⟨"SlippedStreams$StoreList", "isFull", "()Z"⟩ prog_8_method_3_code 1 (some .boolean) ∈ q_big := q_mem 576 (rfl) rfl
theorem k_577 : Cond.methodLink "SlippedStreams$AddressStream" 114 ⟨"SlippedStreams$Program", "isAddressRegister", "(I)Z"⟩ ∈ q_big := q_mem 577 (by decide +kernel) rfl
theorem k_578 : Cond.methodLink "SlippedStreams$AddressStream" 117 ⟨"SlippedStreams$StoreList", "enterWith", "(II)V"⟩ ∈ q_big := q_mem 578 (by decide +kernel) rfl
theorem k_579 : Cond.instanceMethod ⟨"SlippedStreams$StoreList", "enterWith", "(II)V"⟩ ∈ q_big := q_mem 579 (by decide +kernel) rfl
theorem k_580 : Cond.selects "SlippedStreams$StoreList" ⟨"SlippedStreams$StoreList", "enterWith", "(II)V"⟩ ⟨"SlippedStreams$StoreList", "enterWith", "(II)V"⟩ ∈ q_big := q_mem 580 (by decide +kernel) rfl
set_option maxRecDepth 100000 in
theorem k_581 : Cond.code ⟨"SlippedStreams$StoreList", "enterWith", "(II)V"⟩ prog_8_method_6_code 4 none ∈ q_big := q_mem 581 (rfl) rfl
theorem k_582 : Cond.methodLink "SlippedStreams$StoreList" 36 ⟨"SlippedStreams$StoreList", "enter", "(I)V"⟩ ∈ q_big := q_mem 582 (by decide +kernel) rfl
theorem k_583 : Cond.instanceMethod ⟨"SlippedStreams$StoreList", "enter", "(I)V"⟩ ∈ q_big := q_mem 583 (by decide +kernel) rfl
theorem k_584 : Cond.selects "SlippedStreams$StoreList" ⟨"SlippedStreams$StoreList", "enter", "(I)V"⟩ ⟨"SlippedStreams$StoreList", "enter", "(I)V"⟩ ∈ q_big := q_mem 584 (by decide +kernel) rfl
set_option maxRecDepth 100000 in
theorem k_585 : Cond.code ⟨"SlippedStreams$StoreList", "enter", "(I)V"⟩ prog_8_method_5_code 3 none ∈ q_big := q_mem 585 (rfl) rfl
theorem k_586 : Cond.methodLink "SlippedStreams$StoreList" 40 ⟨"SlippedStreams$StoreList", "know", "(II)V"⟩ ∈ q_big := q_mem 586 (by decide +kernel) rfl
theorem k_588 : Cond.instanceMethod ⟨"SlippedStreams$StoreList", "know", "(II)V"⟩ ∈ q_big := q_mem 588 (by decide +kernel) rfl
set_option maxRecDepth 100000 in
theorem k_589 : Cond.code ⟨"SlippedStreams$StoreList", "know", "(II)V"⟩ prog_8_method_8_code 3 none ∈ q_big := q_mem 589 (rfl) rfl
theorem k_590 : Cond.methodLink "SlippedStreams$AddressStream" 127 ⟨"SlippedStreams$Fifo", "take", "()I"⟩ ∈ q_big := q_mem 590 (by decide +kernel) rfl
theorem k_591 : Cond.instanceMethod ⟨"SlippedStreams$Fifo", "take", "()I"⟩ ∈ q_big := q_mem 591 (by decide +kernel) rfl
theorem k_592 : Cond.selects "SlippedStreams$Fifo" ⟨"SlippedStreams$Fifo", "take", "()I"⟩ ⟨"SlippedStreams$Fifo", "take", "()I"⟩ ∈ q_big := q_mem 592 (by decide +kernel) rfl
set_option maxRecDepth 100000 in
theorem k_593 : Cond.code ⟨"SlippedStreams$Fifo", "take", "()I"⟩ prog_3_method_5_code 2 (some .int) ∈ q_big := q_mem 593 (rfl) rfl
theorem k_594 : Cond.methodLink "SlippedStreams$AddressStream" 131 ⟨"SlippedStreams$StoreList", "enter", "(I)V"⟩ ∈ q_big := q_mem 594 (by decide +kernel) rfl
theorem k_595 : Cond.methodLink "SlippedStreams$AddressStream" 73 ⟨"SlippedStreams$Fifo", "hasRoomFor", "(I)Z"⟩ ∈ q_big := q_mem 595 (by decide +kernel) rfl
theorem k_596 : Cond.instanceMethod ⟨"SlippedStreams$Fifo", "hasRoomFor", "(I)Z"⟩ ∈ q_big := q_mem 596 (by decide +kernel) rfl
theorem k_597 : Cond.selects "SlippedStreams$Fifo" ⟨"SlippedStreams$Fifo", "hasRoomFor", "(I)Z"⟩ ⟨"SlippedStreams$Fifo", "hasRoomFor", "(I)Z"⟩ ∈ q_big := q_mem 597 (by decide +kernel) rfl
set_option maxRecDepth 100000 in
theorem k_598 : Cond.code ⟨"SlippedStreams$Fifo", "hasRoomFor", "(I)Z"⟩ prog_3_method_3_code 2 (some .boolean) ∈ q_big := q_mem 598 (rfl) rfl
theorem k_599 : Cond.methodLink "SlippedStreams$AddressStream" 78 ⟨"SlippedStreams$AddressStream", "sendOutcome", "(ILSlippedStreams$Fifo;)Z"⟩ ∈ q_big := q_mem 599 (by decide +kernel) rfl
theorem k_600 : Cond.sameMethod "SlippedStreams$AddressStream" "SlippedStreams$Stream" "sendOutcome" "(ILSlippedStreams$Fifo;)Z" ∈ q_big := q_mem 600 (by decide +kernel) rfl
theorem k_602 : Cond.selects "SlippedStreams$AddressStream" ⟨"SlippedStreams$AddressStream", "sendOutcome", "(ILSlippedStreams$Fifo;)Z"⟩ ⟨"SlippedStreams$Stream", "sendOutcome", "(ILSlippedStreams$Fifo;)Z"⟩ ∈ q_big := q_mem 602 (by decide +kernel) rfl
theorem k_603 : Cond.instanceMethod ⟨"SlippedStreams$Stream", "sendOutcome", "(ILSlippedStreams$Fifo;)Z"⟩ ∈ q_big := q_mem 603 (by decide +kernel) rfl
set_option maxRecDepth 100000 in
theorem k_604 : Cond.code ⟨"SlippedStreams$Stream", "sendOutcome", "(ILSlippedStreams$Fifo;)Z"⟩ prog_9_method_4_code 4 (some .boolean) ∈ q_big := q_mem 604 (rfl) rfl
theorem k_605 : Cond.methodLink "SlippedStreams$Stream" 38 ⟨"SlippedStreams$Stream", "test", "(I)Z"⟩ ∈ q_big := q_mem 605 (by decide +kernel) rfl
theorem k_606 : Cond.sameMethod "SlippedStreams$Stream" "SlippedStreams$Run" "test" "(I)Z" ∈ q_big := q_mem 606 (by decide +kernel) rfl
theorem k_608 : Cond.selects "SlippedStreams$AddressStream" ⟨"SlippedStreams$Stream", "test", "(I)Z"⟩ ⟨"SlippedStreams$Run", "test", "(I)Z"⟩ ∈ q_big := q_mem 608 (by decide +kernel) rfl
theorem k_609 : Cond.selects "SlippedStreams$ValueStream" ⟨"SlippedStreams$Stream", "test", "(I)Z"⟩ ⟨"SlippedStreams$Run", "test", "(I)Z"⟩ ∈ q_big := q_mem 609 (by decide +kernel) rfl
theorem k_610 : Cond.instanceMethod ⟨"SlippedStreams$Run", "test", "(I)Z"⟩ ∈ q_big := q_mem 610 (by decide +kernel) rfl
set_option maxRecDepth 100000 in
theorem k_611 : Cond.code ⟨"SlippedStreams$Run", "test", "(I)Z"⟩ prog_7_method_8_code 4 (some .boolean) ∈ q_big := q_mem 611 (rfl) rfl
theorem k_612 : Cond.methodLink "SlippedStreams$Stream" 42 ⟨"SlippedStreams$Fifo", "put", "(I)V"⟩ ∈ q_big := q_mem 612 (by decide +kernel) rfl
theorem k_613 : Cond.instanceMethod ⟨"SlippedStreams$Fifo", "put", "(I)V"⟩ ∈ q_big := q_mem 613 (by decide +kernel) rfl
theorem k_614 : Cond.selects "SlippedStreams$Fifo" ⟨"SlippedStreams$Fifo", "put", "(I)V"⟩ ⟨"SlippedStreams$Fifo", "put", "(I)V"⟩ ∈ q_big := q_mem 614 (by decide +kernel) rfl
set_option maxRecDepth 100000 in
theorem k_615 : Cond.code ⟨"SlippedStreams$Fifo", "put", "(I)V"⟩ prog_3_method_4_code 3 none ∈ q_big := q_mem 615 (rfl) rfl
theorem k_616 : Cond.methodLink "SlippedStreams$Stream" 48 ⟨"SlippedStreams$Stream", "behind", "(IZ)I"⟩ ∈ q_big := q_mem 616 (by decide +kernel) rfl
theorem k_617 : Cond.sameMethod "SlippedStreams$Stream" "SlippedStreams$Run" "behind" "(IZ)I" ∈ q_big := q_mem 617 (by decide +kernel) rfl
theorem k_619 : Cond.selects "SlippedStreams$AddressStream" ⟨"SlippedStreams$Stream", "behind", "(IZ)I"⟩ ⟨"SlippedStreams$Run", "behind", "(IZ)I"⟩ ∈ q_big := q_mem 619 (by decide +kernel) rfl
theorem k_620 : Cond.selects "SlippedStreams$ValueStream" ⟨"SlippedStreams$Stream", "behind", "(IZ)I"⟩ ⟨"SlippedStreams$Run", "behind", "(IZ)I"⟩ ∈ q_big := q_mem 620 (by decide +kernel) rfl
theorem k_621 : Cond.instanceMethod ⟨"SlippedStreams$Run", "behind", "(IZ)I"⟩ ∈ q_big := q_mem 621 (by decide +kernel) rfl
set_option maxRecDepth 100000 in
theorem k_622 : Cond.code ⟨"SlippedStreams$Run", "behind", "(IZ)I"⟩ prog_7_method_7_code 3 (some .int) ∈ q_big := q_mem 622 (rfl) rfl
theorem k_623 : Cond.methodLink "SlippedStreams$Stream" 52 ⟨"SlippedStreams$Stream", "leaveFor", "(I)Z"⟩ ∈ q_big := q_mem 623 (by decide +kernel) rfl
theorem k_624 : Cond.methodLink "SlippedStreams$AddressStream" 82 ⟨"SlippedStreams$AddressStream", "compute", "(I)V"⟩ ∈ q_big := q_mem 624 (by decide +kernel) rfl
theorem k_625 : Cond.sameMethod "SlippedStreams$AddressStream" "SlippedStreams$Run" "compute" "(I)V" ∈ q_big := q_mem 625 (by decide +kernel) rfl
theorem k_627 : Cond.selects "SlippedStreams$AddressStream" ⟨"SlippedStreams$AddressStream", "compute", "(I)V"⟩ ⟨"SlippedStreams$Run", "compute", "(I)V"⟩ ∈ q_big := q_mem 627 (by decide +kernel) rfl
theorem k_628 : Cond.instanceMethod ⟨"SlippedStreams$Run", "compute", "(I)V"⟩ ∈ q_big := q_mem 628 (by decide +kernel) rfl
set_option maxRecDepth 100000 in
theorem k_629 : Cond.code ⟨"SlippedStreams$Run", "compute", "(I)V"⟩ prog_7_method_9_code 2 none ∈ q_big := q_mem 629 (rfl) rfl
theorem k_630 : Cond.methodLink "SlippedStreams$Run" 50 ⟨"SlippedStreams$Run", "combined", "(I)I"⟩ ∈ q_big := q_mem 630 (by decide +kernel) rfl
theorem k_632 : Cond.instanceMethod ⟨"SlippedStreams$Run", "combined", "(I)I"⟩ ∈ q_big := q_mem 632 (by decide +kernel) rfl
set_option maxRecDepth 100000 in
theorem k_633 : Cond.code ⟨"SlippedStreams$Run", "combined", "(I)I"⟩ prog_7_method_10_code 4 (some .int) ∈ q_big := q_mem 633 (rfl) rfl
theorem k_634 : Cond.methodLink "SlippedStreams$AddressStream" 45 ⟨"SlippedStreams$AddressStream", "serve", "(I)Z"⟩ ∈ q_big := q_mem 634 (by decide +kernel) rfl
theorem k_636 : Cond.instanceMethod ⟨"SlippedStreams$AddressStream", "serve", "(I)Z"⟩ ∈ q_big := q_mem 636 (by decide +kernel) rfl
set_option maxRecDepth 100000 in
theorem k_637 : Cond.code ⟨"SlippedStreams$AddressStream", "serve", "(I)Z"⟩ prog_2_method_8_code 3 (some .boolean) ∈ q_big := q_mem 637 (rfl) rfl
theorem k_638 : Cond.methodLink "SlippedStreams$AddressStream" 134 ⟨"SlippedStreams$AddressStream", "sendLoad", "(I)Z"⟩ ∈ q_big := q_mem 638 (by decide +kernel) rfl
theorem k_640 : Cond.instanceMethod ⟨"SlippedStreams$AddressStream", "sendLoad", "(I)Z"⟩ ∈ q_big := q_mem 640 (by decide +kernel) rfl
set_option maxRecDepth 100000 in
theorem k_641 : Cond.code ⟨"SlippedStreams$AddressStream", "sendLoad", "(I)Z"⟩ prog_2_method_9_code 3 (some .boolean) ∈ q_big := q_mem 641 (rfl) rfl
theorem k_642 : Cond.methodLink "SlippedStreams$AddressStream" 161 ⟨"SlippedStreams$Fifo", "put", "(I)V"⟩ ∈ q_big := q_mem 642 (by decide +kernel) rfl
theorem k_643 : Cond.methodLink "SlippedStreams$AddressStream" 137 ⟨"SlippedStreams$AddressStream", "isAtOutcome", "()Z"⟩ ∈ q_big := q_mem 643 (by decide +kernel) rfl
theorem k_644 : Cond.instanceMethod ⟨"SlippedStreams$AddressStream", "isAtOutcome", "()Z"⟩ ∈ q_big := q_mem 644 (by decide +kernel) rfl
theorem k_645 : Cond.selects "SlippedStreams$AddressStream" ⟨"SlippedStreams$AddressStream", "isAtOutcome", "()Z"⟩ ⟨"SlippedStreams$AddressStream", "isAtOutcome", "()Z"⟩ ∈ q_big := q_mem 645 (by decide +kernel) rfl
set_option maxRecDepth 100000 in
theorem k_646 : Cond.code ⟨"SlippedStreams$AddressStream", "isAtOutcome", "()Z"⟩ prog_2_method_4_code 1 (some .boolean) ∈ q_big := q_mem 646 (rfl) rfl
theorem k_647 : Cond.methodLink "SlippedStreams$AddressStream" 48 ⟨"SlippedStreams$Program", "isBranch", "(I)Z"⟩ ∈ q_big := q_mem 647 (by decide +kernel) rfl
theorem k_648 : Cond.methodLink "SlippedStreams$AddressStream" 143 ⟨"SlippedStreams$AddressStream", "followOutcome", "(ILSlippedStreams$Fifo;)Z"⟩ ∈ q_big := q_mem 648 (by decide +kernel) rfl
theorem k_649 : Cond.sameMethod "SlippedStreams$AddressStream" "SlippedStreams$Stream" "followOutcome" "(ILSlippedStreams$Fifo;)Z" ∈ q_big := q_mem 649 (by decide +kernel) rfl
theorem k_651 : Cond.selects "SlippedStreams$AddressStream" ⟨"SlippedStreams$AddressStream", "followOutcome", "(ILSlippedStreams$Fifo;)Z"⟩ ⟨"SlippedStreams$Stream", "followOutcome", "(ILSlippedStreams$Fifo;)Z"⟩ ∈ q_big := q_mem 651 (by decide +kernel) rfl
theorem k_652 : Cond.instanceMethod ⟨"SlippedStreams$Stream", "followOutcome", "(ILSlippedStreams$Fifo;)Z"⟩ ∈ q_big := q_mem 652 (by decide +kernel) rfl
set_option maxRecDepth 100000 in
theorem k_653 : Cond.code ⟨"SlippedStreams$Stream", "followOutcome", "(ILSlippedStreams$Fifo;)Z"⟩ prog_9_method_5_code 3 (some .boolean) ∈ q_big := q_mem 653 (rfl) rfl
theorem k_654 : Cond.methodLink "SlippedStreams$Stream" 58 ⟨"SlippedStreams$Fifo", "take", "()I"⟩ ∈ q_big := q_mem 654 (by decide +kernel) rfl
theorem k_655 : Cond.methodLink "SlippedStreams$AddressStream" 152 ⟨"SlippedStreams$AddressStream", "hand", "(I)V"⟩ ∈ q_big := q_mem 655 (by decide +kernel) rfl
theorem k_657 : Cond.instanceMethod ⟨"SlippedStreams$AddressStream", "hand", "(I)V"⟩ ∈ q_big := q_mem 657 (by decide +kernel) rfl
set_option maxRecDepth 100000 in
theorem k_658 : Cond.code ⟨"SlippedStreams$AddressStream", "hand", "(I)V"⟩ prog_2_method_10_code 2 none ∈ q_big := q_mem 658 (rfl) rfl
theorem k_659 : Cond.selects "SlippedStreams$PlainRun" ⟨"SlippedStreams$Run", "step", "()Z"⟩ ⟨"SlippedStreams$PlainRun", "step", "()Z"⟩ ∈ q_big := q_mem 659 (by decide +kernel) rfl
theorem k_660 : Cond.instanceMethod ⟨"SlippedStreams$PlainRun", "step", "()Z"⟩ ∈ q_big := q_mem 660 (by decide +kernel) rfl
set_option maxRecDepth 100000 in
theorem k_661 : Cond.code ⟨"SlippedStreams$PlainRun", "step", "()Z"⟩ prog_5_method_3_code 2 (some .boolean) ∈ q_big := q_mem 661 (rfl) rfl
theorem k_662 : Cond.methodLink "SlippedStreams$PlainRun" 46 ⟨"SlippedStreams$PlainRun", "hasEnded", "()Z"⟩ ∈ q_big := q_mem 662 (by decide +kernel) rfl
theorem k_663 : Cond.sameMethod "SlippedStreams$PlainRun" "SlippedStreams$Run" "hasEnded" "()Z" ∈ q_big := q_mem 663 (by decide +kernel) rfl
theorem k_664 : Cond.selects "SlippedStreams$PlainRun" ⟨"SlippedStreams$PlainRun", "hasEnded", "()Z"⟩ ⟨"SlippedStreams$Run", "hasEnded", "()Z"⟩ ∈ q_big := q_mem 664 (by decide +kernel) rfl
theorem k_665 : Cond.methodLink "SlippedStreams$PlainRun" 54 ⟨"SlippedStreams$Program", "isBranch", "(I)Z"⟩ ∈ q_big := q_mem 665 (by decide +kernel) rfl
theorem k_666 : Cond.methodLink "SlippedStreams$PlainRun" 60 ⟨"SlippedStreams$PlainRun", "test", "(I)Z"⟩ ∈ q_big := q_mem 666 (by decide +kernel) rfl
theorem k_667 : Cond.sameMethod "SlippedStreams$PlainRun" "SlippedStreams$Run" "test" "(I)Z" ∈ q_big := q_mem 667 (by decide +kernel) rfl
theorem k_668 : Cond.selects "SlippedStreams$PlainRun" ⟨"SlippedStreams$PlainRun", "test", "(I)Z"⟩ ⟨"SlippedStreams$Run", "test", "(I)Z"⟩ ∈ q_big := q_mem 668 (by decide +kernel) rfl
theorem k_669 : Cond.methodLink "SlippedStreams$PlainRun" 63 ⟨"SlippedStreams$PlainRun", "behind", "(IZ)I"⟩ ∈ q_big := q_mem 669 (by decide +kernel) rfl
theorem k_670 : Cond.sameMethod "SlippedStreams$PlainRun" "SlippedStreams$Run" "behind" "(IZ)I" ∈ q_big := q_mem 670 (by decide +kernel) rfl
theorem k_671 : Cond.selects "SlippedStreams$PlainRun" ⟨"SlippedStreams$PlainRun", "behind", "(IZ)I"⟩ ⟨"SlippedStreams$Run", "behind", "(IZ)I"⟩ ∈ q_big := q_mem 671 (by decide +kernel) rfl
theorem k_672 : Cond.methodLink "SlippedStreams$PlainRun" 67 ⟨"SlippedStreams$PlainRun", "perform", "(I)V"⟩ ∈ q_big := q_mem 672 (by decide +kernel) rfl
theorem k_674 : Cond.instanceMethod ⟨"SlippedStreams$PlainRun", "perform", "(I)V"⟩ ∈ q_big := q_mem 674 (by decide +kernel) rfl
set_option maxRecDepth 100000 in
theorem k_675 : Cond.code ⟨"SlippedStreams$PlainRun", "perform", "(I)V"⟩ prog_5_method_4_code 3 none ∈ q_big := q_mem 675 (rfl) rfl
theorem k_676 : Cond.methodLink "SlippedStreams$PlainRun" 77 ⟨"SlippedStreams$PlainRun", "wordAddress", "(I)I"⟩ ∈ q_big := q_mem 676 (by decide +kernel) rfl
theorem k_677 : Cond.sameMethod "SlippedStreams$PlainRun" "SlippedStreams$Run" "wordAddress" "(I)I" ∈ q_big := q_mem 677 (by decide +kernel) rfl
theorem k_678 : Cond.selects "SlippedStreams$PlainRun" ⟨"SlippedStreams$PlainRun", "wordAddress", "(I)I"⟩ ⟨"SlippedStreams$Run", "wordAddress", "(I)I"⟩ ∈ q_big := q_mem 678 (by decide +kernel) rfl
theorem k_679 : Cond.methodLink "SlippedStreams$PlainRun" 81 ⟨"SlippedStreams$Written", "write", "(I)V"⟩ ∈ q_big := q_mem 679 (by decide +kernel) rfl
theorem k_680 : Cond.instanceMethod ⟨"SlippedStreams$Written", "write", "(I)V"⟩ ∈ q_big := q_mem 680 (by decide +kernel) rfl
theorem k_681 : Cond.selects "SlippedStreams$Written" ⟨"SlippedStreams$Written", "write", "(I)V"⟩ ⟨"SlippedStreams$Written", "write", "(I)V"⟩ ∈ q_big := q_mem 681 (by decide +kernel) rfl
set_option maxRecDepth 100000 in
theorem k_682 : Cond.code ⟨"SlippedStreams$Written", "write", "(I)V"⟩ prog_11_method_3_code 2 none ∈ q_big := q_mem 682 (rfl) rfl
theorem k_683 : Cond.methodLink "SlippedStreams$PlainRun" 84 ⟨"SlippedStreams$PlainRun", "compute", "(I)V"⟩ ∈ q_big := q_mem 683 (by decide +kernel) rfl
theorem k_684 : Cond.sameMethod "SlippedStreams$PlainRun" "SlippedStreams$Run" "compute" "(I)V" ∈ q_big := q_mem 684 (by decide +kernel) rfl
theorem k_685 : Cond.selects "SlippedStreams$PlainRun" ⟨"SlippedStreams$PlainRun", "compute", "(I)V"⟩ ⟨"SlippedStreams$Run", "compute", "(I)V"⟩ ∈ q_big := q_mem 685 (by decide +kernel) rfl
theorem k_686 : Cond.selects "SlippedStreams$ValueStream" ⟨"SlippedStreams$Run", "step", "()Z"⟩ ⟨"SlippedStreams$ValueStream", "step", "()Z"⟩ ∈ q_big := q_mem 686 (by decide +kernel) rfl
theorem k_687 : Cond.instanceMethod ⟨"SlippedStreams$ValueStream", "step", "()Z"⟩ ∈ q_big := q_mem 687 (by decide +kernel) rfl
set_option maxRecDepth 100000 in
theorem k_688 : Cond.code ⟨"SlippedStreams$ValueStream", "step", "()Z"⟩ prog_10_method_3_code 1 (some .boolean) ∈ q_big := q_mem 688 (rfl) rfl
theorem k_689 : Cond.methodLink "SlippedStreams$ValueStream" 32 ⟨"SlippedStreams$ValueStream", "hasEnded", "()Z"⟩ ∈ q_big := q_mem 689 (by decide +kernel) rfl
theorem k_690 : Cond.sameMethod "SlippedStreams$ValueStream" "SlippedStreams$Run" "hasEnded" "()Z" ∈ q_big := q_mem 690 (by decide +kernel) rfl
theorem k_691 : Cond.selects "SlippedStreams$ValueStream" ⟨"SlippedStreams$ValueStream", "hasEnded", "()Z"⟩ ⟨"SlippedStreams$Run", "hasEnded", "()Z"⟩ ∈ q_big := q_mem 691 (by decide +kernel) rfl
theorem k_692 : Cond.methodLink "SlippedStreams$ValueStream" 51 ⟨"SlippedStreams$ValueStream", "receiveLoad", "(I)Z"⟩ ∈ q_big := q_mem 692 (by decide +kernel) rfl
theorem k_694 : Cond.instanceMethod ⟨"SlippedStreams$ValueStream", "receiveLoad", "(I)Z"⟩ ∈ q_big := q_mem 694 (by decide +kernel) rfl
set_option maxRecDepth 100000 in
theorem k_695 : Cond.code ⟨"SlippedStreams$ValueStream", "receiveLoad", "(I)Z"⟩ prog_10_method_4_code 2 (some .boolean) ∈ q_big := q_mem 695 (rfl) rfl
theorem k_696 : Cond.methodLink "SlippedStreams$ValueStream" 92 ⟨"SlippedStreams$Fifo", "take", "()I"⟩ ∈ q_big := q_mem 696 (by decide +kernel) rfl
theorem k_697 : Cond.methodLink "SlippedStreams$ValueStream" 96 ⟨"SlippedStreams$ValueStream", "leaveFor", "(I)Z"⟩ ∈ q_big := q_mem 697 (by decide +kernel) rfl
theorem k_698 : Cond.sameMethod "SlippedStreams$ValueStream" "SlippedStreams$Stream" "leaveFor" "(I)Z" ∈ q_big := q_mem 698 (by decide +kernel) rfl
theorem k_699 : Cond.selects "SlippedStreams$ValueStream" ⟨"SlippedStreams$ValueStream", "leaveFor", "(I)Z"⟩ ⟨"SlippedStreams$Stream", "leaveFor", "(I)Z"⟩ ∈ q_big := q_mem 699 (by decide +kernel) rfl
theorem k_700 : Cond.methodLink "SlippedStreams$ValueStream" 55 ⟨"SlippedStreams$ValueStream", "doOwn", "(I)Z"⟩ ∈ q_big := q_mem 700 (by decide +kernel) rfl
theorem k_702 : Cond.instanceMethod ⟨"SlippedStreams$ValueStream", "doOwn", "(I)Z"⟩ ∈ q_big := q_mem 702 (by decide +kernel) rfl
set_option maxRecDepth 100000 in
theorem k_703 : Cond.code ⟨"SlippedStreams$ValueStream", "doOwn", "(I)Z"⟩ prog_10_method_5_code 3 (some .boolean) ∈ q_big := q_mem 703 (rfl) rfl
theorem k_704 : Cond.methodLink "SlippedStreams$ValueStream" 58 ⟨"SlippedStreams$Program", "isBranch", "(I)Z"⟩ ∈ q_big := q_mem 704 (by decide +kernel) rfl
theorem k_705 : Cond.methodLink "SlippedStreams$ValueStream" 108 ⟨"SlippedStreams$Fifo", "hasRoomFor", "(I)Z"⟩ ∈ q_big := q_mem 705 (by decide +kernel) rfl
theorem k_706 : Cond.methodLink "SlippedStreams$ValueStream" 114 ⟨"SlippedStreams$ValueStream", "receive", "(I)V"⟩ ∈ q_big := q_mem 706 (by decide +kernel) rfl
theorem k_708 : Cond.instanceMethod ⟨"SlippedStreams$ValueStream", "receive", "(I)V"⟩ ∈ q_big := q_mem 708 (by decide +kernel) rfl
set_option maxRecDepth 100000 in
theorem k_709 : Cond.code ⟨"SlippedStreams$ValueStream", "receive", "(I)V"⟩ prog_10_method_6_code 2 none ∈ q_big := q_mem 709 (rfl) rfl
theorem k_710 : Cond.methodLink "SlippedStreams$ValueStream" 121 ⟨"SlippedStreams$ValueStream", "sendOutcome", "(ILSlippedStreams$Fifo;)Z"⟩ ∈ q_big := q_mem 710 (by decide +kernel) rfl
theorem k_711 : Cond.sameMethod "SlippedStreams$ValueStream" "SlippedStreams$Stream" "sendOutcome" "(ILSlippedStreams$Fifo;)Z" ∈ q_big := q_mem 711 (by decide +kernel) rfl
theorem k_712 : Cond.selects "SlippedStreams$ValueStream" ⟨"SlippedStreams$ValueStream", "sendOutcome", "(ILSlippedStreams$Fifo;)Z"⟩ ⟨"SlippedStreams$Stream", "sendOutcome", "(ILSlippedStreams$Fifo;)Z"⟩ ∈ q_big := q_mem 712 (by decide +kernel) rfl
theorem k_713 : Cond.methodLink "SlippedStreams$ValueStream" 124 ⟨"SlippedStreams$Written", "write", "(I)V"⟩ ∈ q_big := q_mem 713 (by decide +kernel) rfl
theorem k_714 : Cond.methodLink "SlippedStreams$ValueStream" 127 ⟨"SlippedStreams$ValueStream", "compute", "(I)V"⟩ ∈ q_big := q_mem 714 (by decide +kernel) rfl
theorem k_715 : Cond.sameMethod "SlippedStreams$ValueStream" "SlippedStreams$Run" "compute" "(I)V" ∈ q_big := q_mem 715 (by decide +kernel) rfl
theorem k_716 : Cond.selects "SlippedStreams$ValueStream" ⟨"SlippedStreams$ValueStream", "compute", "(I)V"⟩ ⟨"SlippedStreams$Run", "compute", "(I)V"⟩ ∈ q_big := q_mem 716 (by decide +kernel) rfl
theorem k_717 : Cond.methodLink "SlippedStreams$ValueStream" 71 ⟨"SlippedStreams$ValueStream", "followOutcome", "(ILSlippedStreams$Fifo;)Z"⟩ ∈ q_big := q_mem 717 (by decide +kernel) rfl
theorem k_718 : Cond.sameMethod "SlippedStreams$ValueStream" "SlippedStreams$Stream" "followOutcome" "(ILSlippedStreams$Fifo;)Z" ∈ q_big := q_mem 718 (by decide +kernel) rfl
theorem k_719 : Cond.selects "SlippedStreams$ValueStream" ⟨"SlippedStreams$ValueStream", "followOutcome", "(ILSlippedStreams$Fifo;)Z"⟩ ⟨"SlippedStreams$Stream", "followOutcome", "(ILSlippedStreams$Fifo;)Z"⟩ ∈ q_big := q_mem 719 (by decide +kernel) rfl
theorem k_720 : Cond.methodLink "SlippedStreams$ValueStream" 75 ⟨"SlippedStreams$ValueStream", "giveStored", "(I)Z"⟩ ∈ q_big := q_mem 720 (by decide +kernel) rfl
theorem k_722 : Cond.instanceMethod ⟨"SlippedStreams$ValueStream", "giveStored", "(I)Z"⟩ ∈ q_big := q_mem 722 (by decide +kernel) rfl
set_option maxRecDepth 100000 in
theorem k_723 : Cond.code ⟨"SlippedStreams$ValueStream", "giveStored", "(I)Z"⟩ prog_10_method_7_code 3 (some .boolean) ∈ q_big := q_mem 723 (rfl) rfl
theorem k_724 : Cond.methodLink "SlippedStreams$ValueStream" 134 ⟨"SlippedStreams$StoreList", "give", "(I)Z"⟩ ∈ q_big := q_mem 724 (by decide +kernel) rfl
theorem k_725 : Cond.instanceMethod ⟨"SlippedStreams$StoreList", "give", "(I)Z"⟩ ∈ q_big := q_mem 725 (by decide +kernel) rfl
theorem k_726 : Cond.selects "SlippedStreams$StoreList" ⟨"SlippedStreams$StoreList", "give", "(I)Z"⟩ ⟨"SlippedStreams$StoreList", "give", "(I)Z"⟩ ∈ q_big := q_mem 726 (by decide +kernel) rfl
set_option maxRecDepth 100000 in
theorem k_727 : Cond.code ⟨"SlippedStreams$StoreList", "give", "(I)Z"⟩ prog_8_method_7_code 2 (some .boolean) ∈ q_big := q_mem 727 (rfl) rfl
theorem k_728 : Cond.methodLink "SlippedStreams$ValueStream" 142 ⟨"SlippedStreams$Fifo", "put", "(I)V"⟩ ∈ q_big := q_mem 728 (by decide +kernel) rfl
theorem k_729 : Cond.methodLink "SlippedStreams" 89 ⟨"SlippedStreams", "noteLoss", "()V"⟩ ∈ q_big := q_mem 729 (by decide +kernel) rfl
theorem k_731 : Cond.instanceMethod ⟨"SlippedStreams", "noteLoss", "()V"⟩ ∈ q_big := q_mem 731 (by decide +kernel) rfl
set_option maxRecDepth 100000 in
theorem k_732 : Cond.code ⟨"SlippedStreams", "noteLoss", "()V"⟩ prog_1_method_21_code 1 none ∈ q_big := q_mem 732 (rfl) rfl
theorem k_733 : Cond.methodLink "SlippedStreams" 174 ⟨"SlippedStreams$AddressStream", "isAtOutcome", "()Z"⟩ ∈ q_big := q_mem 733 (by decide +kernel) rfl
theorem k_738 : Cond.methodLink "SlippedStreams" 92 ⟨"SlippedStreams$ValueStream", "advance", "(I)I"⟩ ∈ q_big := q_mem 738 (by decide +kernel) rfl
theorem k_739 : Cond.sameMethod "SlippedStreams$ValueStream" "SlippedStreams$Run" "advance" "(I)I" ∈ q_big := q_mem 739 (by decide +kernel) rfl
theorem k_740 : Cond.selects "SlippedStreams$ValueStream" ⟨"SlippedStreams$ValueStream", "advance", "(I)I"⟩ ⟨"SlippedStreams$Run", "advance", "(I)I"⟩ ∈ q_big := q_mem 740 (by decide +kernel) rfl
theorem k_745 : Cond.methodLink "SlippedStreams" 93 ⟨"SlippedStreams$AddressStream", "step", "()Z"⟩ ∈ q_big := q_mem 745 (by decide +kernel) rfl
theorem k_746 : Cond.methodLink "SlippedStreams" 97 ⟨"SlippedStreams$ValueStream", "step", "()Z"⟩ ∈ q_big := q_mem 746 (by decide +kernel) rfl
theorem k_751 : Cond.methodLink "SlippedStreams" 98 ⟨"SlippedStreams$AddressStream", "position", "()I"⟩ ∈ q_big := q_mem 751 (by decide +kernel) rfl
theorem k_752 : Cond.sameMethod "SlippedStreams$AddressStream" "SlippedStreams$Run" "position" "()I" ∈ q_big := q_mem 752 (by decide +kernel) rfl
theorem k_754 : Cond.selects "SlippedStreams$AddressStream" ⟨"SlippedStreams$AddressStream", "position", "()I"⟩ ⟨"SlippedStreams$Run", "position", "()I"⟩ ∈ q_big := q_mem 754 (by decide +kernel) rfl
theorem k_755 : Cond.instanceMethod ⟨"SlippedStreams$Run", "position", "()I"⟩ ∈ q_big := q_mem 755 (by decide +kernel) rfl
set_option maxRecDepth 100000 in
theorem k_756 : Cond.code ⟨"SlippedStreams$Run", "position", "()I"⟩ prog_7_method_5_code 1 (some .int) ∈ q_big := q_mem 756 (rfl) rfl
theorem k_757 : Cond.methodLink "SlippedStreams$Run" 32 ⟨"java/lang/Math", "min", "(II)I"⟩ ∈ q_big := q_mem 757 (by decide +kernel) rfl
theorem k_758 : Cond.static ⟨"java/lang/Math", "min", "(II)I"⟩ ∈ q_big := q_mem 758 (by decide +kernel) rfl
set_option maxRecDepth 100000 in
theorem k_759 : Cond.code ⟨"java/lang/Math", "min", "(II)I"⟩ prog_15_method_69_code 2 (some .int) ∈ q_big := q_mem 759 (rfl) rfl
theorem k_760 : Cond.methodLink "SlippedStreams" 102 ⟨"SlippedStreams$ValueStream", "position", "()I"⟩ ∈ q_big := q_mem 760 (by decide +kernel) rfl
theorem k_761 : Cond.sameMethod "SlippedStreams$ValueStream" "SlippedStreams$Run" "position" "()I" ∈ q_big := q_mem 761 (by decide +kernel) rfl
theorem k_762 : Cond.selects "SlippedStreams$ValueStream" ⟨"SlippedStreams$ValueStream", "position", "()I"⟩ ⟨"SlippedStreams$Run", "position", "()I"⟩ ∈ q_big := q_mem 762 (by decide +kernel) rfl
theorem k_763 : Cond.methodLink "SlippedStreams" 103 ⟨"SlippedStreams$PlainRun", "position", "()I"⟩ ∈ q_big := q_mem 763 (by decide +kernel) rfl
theorem k_764 : Cond.sameMethod "SlippedStreams$PlainRun" "SlippedStreams$Run" "position" "()I" ∈ q_big := q_mem 764 (by decide +kernel) rfl
theorem k_765 : Cond.selects "SlippedStreams$PlainRun" ⟨"SlippedStreams$PlainRun", "position", "()I"⟩ ⟨"SlippedStreams$Run", "position", "()I"⟩ ∈ q_big := q_mem 765 (by decide +kernel) rfl
theorem k_778 : Cond.methodLink "SlippedStreams" 134 ⟨"SlippedStreams", "isRegister", "(I)Z"⟩ ∈ q_big := q_mem 778 (by decide +kernel) rfl
theorem k_779 : Cond.methodLink "SlippedStreams" 140 ⟨"SlippedStreams$Program", "isAddressRegister", "(I)Z"⟩ ∈ q_big := q_mem 779 (by decide +kernel) rfl
theorem k_792 : Cond.methodLink "SlippedStreams" 152 ⟨"SlippedStreams$PlainRun", "advance", "(I)I"⟩ ∈ q_big := q_mem 792 (by decide +kernel) rfl
theorem k_793 : Cond.sameMethod "SlippedStreams$PlainRun" "SlippedStreams$Run" "advance" "(I)I" ∈ q_big := q_mem 793 (by decide +kernel) rfl
theorem k_794 : Cond.selects "SlippedStreams$PlainRun" ⟨"SlippedStreams$PlainRun", "advance", "(I)I"⟩ ⟨"SlippedStreams$Run", "advance", "(I)I"⟩ ∈ q_big := q_mem 794 (by decide +kernel) rfl
theorem k_803 : Cond.methodLink "SlippedStreams" 163 ⟨"SlippedStreams$Written", "thing", "(I)I"⟩ ∈ q_big := q_mem 803 (by decide +kernel) rfl
theorem k_804 : Cond.instanceMethod ⟨"SlippedStreams$Written", "thing", "(I)I"⟩ ∈ q_big := q_mem 804 (by decide +kernel) rfl
theorem k_805 : Cond.selects "SlippedStreams$Written" ⟨"SlippedStreams$Written", "thing", "(I)I"⟩ ⟨"SlippedStreams$Written", "thing", "(I)I"⟩ ∈ q_big := q_mem 805 (by decide +kernel) rfl
set_option maxRecDepth 100000 in
theorem k_806 : Cond.code ⟨"SlippedStreams$Written", "thing", "(I)I"⟩ prog_11_method_4_code 2 (some .int) ∈ q_big := q_mem 806 (rfl) rfl
theorem k_813 : Cond.fieldLink "SlippedStreamsModel" 62 "SlippedStreamsModel" "count" "I" ∈ q_big := q_mem 813 (by decide +kernel) rfl
theorem k_814 : Cond.fieldLink "SlippedStreamsModel" 7 "SlippedStreamsModel" "kinds" "[I" ∈ q_big := q_mem 814 (by decide +kernel) rfl
theorem k_815 : Cond.fieldLink "SlippedStreamsModel" 13 "SlippedStreamsModel" "as" "[I" ∈ q_big := q_mem 815 (by decide +kernel) rfl
theorem k_816 : Cond.fieldLink "SlippedStreamsModel" 16 "SlippedStreamsModel" "bs" "[I" ∈ q_big := q_mem 816 (by decide +kernel) rfl
theorem k_817 : Cond.fieldLink "SlippedStreamsModel" 19 "SlippedStreamsModel" "cs" "[I" ∈ q_big := q_mem 817 (by decide +kernel) rfl
theorem k_818 : Cond.fieldLink "SlippedStreamsModel" 76 "SlippedStreamsModel" "first" "I" ∈ q_big := q_mem 818 (by decide +kernel) rfl
theorem k_819 : Cond.fieldLink "SlippedStreamsModel" 79 "SlippedStreamsModel" "step" "I" ∈ q_big := q_mem 819 (by decide +kernel) rfl
theorem k_820 : Cond.fieldLink "SlippedStreamsModel" 22 "SlippedStreamsModel" "isAddress" "[Z" ∈ q_big := q_mem 820 (by decide +kernel) rfl
theorem k_821 : Cond.fieldLink "SlippedStreamsModel" 26 "SlippedStreamsModel" "registers" "[I" ∈ q_big := q_mem 821 (by decide +kernel) rfl
theorem k_822 : Cond.fieldLink "SlippedStreamsModel" 29 "SlippedStreamsModel" "places" "[I" ∈ q_big := q_mem 822 (by decide +kernel) rfl
theorem k_823 : Cond.fieldLink "SlippedStreamsModel" 32 "SlippedStreamsModel" "behind" "[I" ∈ q_big := q_mem 823 (by decide +kernel) rfl
theorem k_824 : Cond.fieldLink "SlippedStreamsModel" 85 "SlippedStreamsModel" "sent" "Z" ∈ q_big := q_mem 824 (by decide +kernel) rfl
theorem k_825 : Cond.fieldLink "SlippedStreamsModel" 35 "SlippedStreamsModel" "memory" "[I" ∈ q_big := q_mem 825 (by decide +kernel) rfl
theorem k_826 : Cond.fieldLink "SlippedStreamsModel" 89 "SlippedStreamsModel" "lost" "I" ∈ q_big := q_mem 826 (by decide +kernel) rfl
theorem k_827 : Cond.fieldLink "SlippedStreamsModel" 151 "SlippedStreamsModel" "starved" "Z" ∈ q_big := q_mem 827 (by decide +kernel) rfl
theorem k_828 : Cond.fieldLink "SlippedStreamsModel" 38 "SlippedStreamsModel" "queues" "[I" ∈ q_big := q_mem 828 (by decide +kernel) rfl
theorem k_829 : Cond.fieldLink "SlippedStreamsModel" 41 "SlippedStreamsModel" "lengths" "[I" ∈ q_big := q_mem 829 (by decide +kernel) rfl
theorem k_830 : Cond.fieldLink "SlippedStreamsModel" 82 "SlippedStreamsModel" "stores" "I" ∈ q_big := q_mem 830 (by decide +kernel) rfl
theorem k_831 : Cond.fieldLink "SlippedStreamsModel" 44 "SlippedStreamsModel" "storeAt" "[I" ∈ q_big := q_mem 831 (by decide +kernel) rfl
theorem k_832 : Cond.fieldLink "SlippedStreamsModel" 47 "SlippedStreamsModel" "storeWord" "[I" ∈ q_big := q_mem 832 (by decide +kernel) rfl
theorem k_833 : Cond.fieldLink "SlippedStreamsModel" 50 "SlippedStreamsModel" "storeThere" "[Z" ∈ q_big := q_mem 833 (by decide +kernel) rfl
theorem k_834 : Cond.fieldLink "SlippedStreamsModel" 53 "SlippedStreamsModel" "plainRegisters" "[I" ∈ q_big := q_mem 834 (by decide +kernel) rfl
theorem k_835 : Cond.fieldLink "SlippedStreamsModel" 56 "SlippedStreamsModel" "plainMemory" "[I" ∈ q_big := q_mem 835 (by decide +kernel) rfl
theorem k_836 : Cond.fieldLink "SlippedStreamsModel" 92 "SlippedStreamsModel" "plainPlace" "I" ∈ q_big := q_mem 836 (by decide +kernel) rfl
theorem k_837 : Cond.fieldLink "SlippedStreamsModel" 59 "SlippedStreamsModel" "written" "[I" ∈ q_big := q_mem 837 (by decide +kernel) rfl
theorem k_838 : Cond.fieldLink "SlippedStreamsModel" 95 "SlippedStreamsModel" "streamOutputs" "I" ∈ q_big := q_mem 838 (by decide +kernel) rfl
theorem k_839 : Cond.fieldLink "SlippedStreamsModel" 98 "SlippedStreamsModel" "plainOutputs" "I" ∈ q_big := q_mem 839 (by decide +kernel) rfl
theorem k_840 : Cond.lays "SlippedStreamsModel" "SlippedStreamsModel" "count" "I" ∈ q_big := q_mem 840 (by decide +kernel) rfl
theorem k_842 : Cond.laysFinal "SlippedStreamsModel" "SlippedStreamsModel" "kinds" "[I" ∈ q_big := q_mem 842 (by decide +kernel) rfl
theorem k_844 : Cond.laysFinal "SlippedStreamsModel" "SlippedStreamsModel" "as" "[I" ∈ q_big := q_mem 844 (by decide +kernel) rfl
theorem k_846 : Cond.laysFinal "SlippedStreamsModel" "SlippedStreamsModel" "bs" "[I" ∈ q_big := q_mem 846 (by decide +kernel) rfl
theorem k_848 : Cond.laysFinal "SlippedStreamsModel" "SlippedStreamsModel" "cs" "[I" ∈ q_big := q_mem 848 (by decide +kernel) rfl
theorem k_850 : Cond.lays "SlippedStreamsModel" "SlippedStreamsModel" "first" "I" ∈ q_big := q_mem 850 (by decide +kernel) rfl
theorem k_852 : Cond.lays "SlippedStreamsModel" "SlippedStreamsModel" "step" "I" ∈ q_big := q_mem 852 (by decide +kernel) rfl
theorem k_854 : Cond.laysFinal "SlippedStreamsModel" "SlippedStreamsModel" "isAddress" "[Z" ∈ q_big := q_mem 854 (by decide +kernel) rfl
theorem k_856 : Cond.laysFinal "SlippedStreamsModel" "SlippedStreamsModel" "registers" "[I" ∈ q_big := q_mem 856 (by decide +kernel) rfl
theorem k_858 : Cond.laysFinal "SlippedStreamsModel" "SlippedStreamsModel" "places" "[I" ∈ q_big := q_mem 858 (by decide +kernel) rfl
theorem k_860 : Cond.laysFinal "SlippedStreamsModel" "SlippedStreamsModel" "behind" "[I" ∈ q_big := q_mem 860 (by decide +kernel) rfl
theorem k_862 : Cond.lays "SlippedStreamsModel" "SlippedStreamsModel" "sent" "Z" ∈ q_big := q_mem 862 (by decide +kernel) rfl
theorem k_864 : Cond.laysFinal "SlippedStreamsModel" "SlippedStreamsModel" "memory" "[I" ∈ q_big := q_mem 864 (by decide +kernel) rfl
theorem k_866 : Cond.lays "SlippedStreamsModel" "SlippedStreamsModel" "lost" "I" ∈ q_big := q_mem 866 (by decide +kernel) rfl
theorem k_868 : Cond.lays "SlippedStreamsModel" "SlippedStreamsModel" "starved" "Z" ∈ q_big := q_mem 868 (by decide +kernel) rfl
theorem k_870 : Cond.laysFinal "SlippedStreamsModel" "SlippedStreamsModel" "queues" "[I" ∈ q_big := q_mem 870 (by decide +kernel) rfl
theorem k_872 : Cond.laysFinal "SlippedStreamsModel" "SlippedStreamsModel" "lengths" "[I" ∈ q_big := q_mem 872 (by decide +kernel) rfl
theorem k_874 : Cond.lays "SlippedStreamsModel" "SlippedStreamsModel" "stores" "I" ∈ q_big := q_mem 874 (by decide +kernel) rfl
theorem k_876 : Cond.laysFinal "SlippedStreamsModel" "SlippedStreamsModel" "storeAt" "[I" ∈ q_big := q_mem 876 (by decide +kernel) rfl
theorem k_878 : Cond.laysFinal "SlippedStreamsModel" "SlippedStreamsModel" "storeWord" "[I" ∈ q_big := q_mem 878 (by decide +kernel) rfl
theorem k_880 : Cond.laysFinal "SlippedStreamsModel" "SlippedStreamsModel" "storeThere" "[Z" ∈ q_big := q_mem 880 (by decide +kernel) rfl
theorem k_882 : Cond.laysFinal "SlippedStreamsModel" "SlippedStreamsModel" "plainRegisters" "[I" ∈ q_big := q_mem 882 (by decide +kernel) rfl
theorem k_884 : Cond.laysFinal "SlippedStreamsModel" "SlippedStreamsModel" "plainMemory" "[I" ∈ q_big := q_mem 884 (by decide +kernel) rfl
theorem k_886 : Cond.lays "SlippedStreamsModel" "SlippedStreamsModel" "plainPlace" "I" ∈ q_big := q_mem 886 (by decide +kernel) rfl
theorem k_888 : Cond.laysFinal "SlippedStreamsModel" "SlippedStreamsModel" "written" "[I" ∈ q_big := q_mem 888 (by decide +kernel) rfl
theorem k_890 : Cond.lays "SlippedStreamsModel" "SlippedStreamsModel" "streamOutputs" "I" ∈ q_big := q_mem 890 (by decide +kernel) rfl
theorem k_892 : Cond.lays "SlippedStreamsModel" "SlippedStreamsModel" "plainOutputs" "I" ∈ q_big := q_mem 892 (by decide +kernel) rfl
theorem k_899 : Cond.methodLink "SlippedStreamsModel" 66 ⟨"SlippedStreamsModel", "isRegister", "(I)Z"⟩ ∈ q_big := q_mem 899 (by decide +kernel) rfl
theorem k_900 : Cond.static ⟨"SlippedStreamsModel", "isRegister", "(I)Z"⟩ ∈ q_big := q_mem 900 (by decide +kernel) rfl
set_option maxRecDepth 100000 in
theorem k_901 : Cond.code ⟨"SlippedStreamsModel", "isRegister", "(I)Z"⟩ prog_13_method_2_code 1 (some .boolean) ∈ q_big := q_mem 901 (rfl) rfl
theorem k_902 : Cond.methodLink "SlippedStreamsModel" 70 ⟨"SlippedStreamsModel", "slice", "()V"⟩ ∈ q_big := q_mem 902 (by decide +kernel) rfl
theorem k_904 : Cond.instanceMethod ⟨"SlippedStreamsModel", "slice", "()V"⟩ ∈ q_big := q_mem 904 (by decide +kernel) rfl
set_option maxRecDepth 100000 in
theorem k_905 : Cond.code ⟨"SlippedStreamsModel", "slice", "()V"⟩ prog_13_method_8_code 4 none ∈ q_big := q_mem 905 (rfl) rfl
theorem k_906 : Cond.methodLink "SlippedStreamsModel" 105 ⟨"SlippedStreamsModel", "reckons", "(I)Z"⟩ ∈ q_big := q_mem 906 (by decide +kernel) rfl
theorem k_907 : Cond.static ⟨"SlippedStreamsModel", "reckons", "(I)Z"⟩ ∈ q_big := q_mem 907 (by decide +kernel) rfl
set_option maxRecDepth 100000 in
theorem k_908 : Cond.code ⟨"SlippedStreamsModel", "reckons", "(I)Z"⟩ prog_13_method_7_code 1 (some .boolean) ∈ q_big := q_mem 908 (rfl) rfl
theorem k_909 : Cond.methodLink "SlippedStreamsModel" 73 ⟨"SlippedStreamsModel", "reset", "()V"⟩ ∈ q_big := q_mem 909 (by decide +kernel) rfl
theorem k_910 : Cond.instanceMethod ⟨"SlippedStreamsModel", "reset", "()V"⟩ ∈ q_big := q_mem 910 (by decide +kernel) rfl
theorem k_911 : Cond.selects "SlippedStreamsModel" ⟨"SlippedStreamsModel", "reset", "()V"⟩ ⟨"SlippedStreamsModel", "reset", "()V"⟩ ∈ q_big := q_mem 911 (by decide +kernel) rfl
set_option maxRecDepth 100000 in
theorem k_912 : Cond.code ⟨"SlippedStreamsModel", "reset", "()V"⟩ prog_13_method_6_code 2 none ∈ q_big := q_mem 912 (rfl) rfl
theorem k_913 : Cond.methodLink "SlippedStreamsModel" 101 ⟨"SlippedStreamsModel", "goOver", "(I)V"⟩ ∈ q_big := q_mem 913 (by decide +kernel) rfl
theorem k_915 : Cond.instanceMethod ⟨"SlippedStreamsModel", "goOver", "(I)V"⟩ ∈ q_big := q_mem 915 (by decide +kernel) rfl
set_option maxRecDepth 100000 in
theorem k_916 : Cond.code ⟨"SlippedStreamsModel", "goOver", "(I)V"⟩ prog_13_method_15_code 2 none ∈ q_big := q_mem 916 (rfl) rfl
theorem k_917 : Cond.methodLink "SlippedStreamsModel" 125 ⟨"SlippedStreamsModel", "isNothing", "(II)Z"⟩ ∈ q_big := q_mem 917 (by decide +kernel) rfl
theorem k_919 : Cond.instanceMethod ⟨"SlippedStreamsModel", "isNothing", "(II)Z"⟩ ∈ q_big := q_mem 919 (by decide +kernel) rfl
set_option maxRecDepth 100000 in
theorem k_920 : Cond.code ⟨"SlippedStreamsModel", "isNothing", "(II)Z"⟩ prog_13_method_14_code 4 (some .boolean) ∈ q_big := q_mem 920 (rfl) rfl
theorem k_921 : Cond.methodLink "SlippedStreamsModel" 115 ⟨"SlippedStreamsModel", "isBranch", "(I)Z"⟩ ∈ q_big := q_mem 921 (by decide +kernel) rfl
theorem k_923 : Cond.instanceMethod ⟨"SlippedStreamsModel", "isBranch", "(I)Z"⟩ ∈ q_big := q_mem 923 (by decide +kernel) rfl
set_option maxRecDepth 100000 in
theorem k_924 : Cond.code ⟨"SlippedStreamsModel", "isBranch", "(I)Z"⟩ prog_13_method_13_code 2 (some .boolean) ∈ q_big := q_mem 924 (rfl) rfl
theorem k_925 : Cond.methodLink "SlippedStreamsModel" 118 ⟨"SlippedStreamsModel", "belongs", "(I)I"⟩ ∈ q_big := q_mem 925 (by decide +kernel) rfl
theorem k_927 : Cond.instanceMethod ⟨"SlippedStreamsModel", "belongs", "(I)I"⟩ ∈ q_big := q_mem 927 (by decide +kernel) rfl
set_option maxRecDepth 100000 in
theorem k_928 : Cond.code ⟨"SlippedStreamsModel", "belongs", "(I)I"⟩ prog_13_method_9_code 3 (some .int) ∈ q_big := q_mem 928 (rfl) rfl
theorem k_929 : Cond.methodLink "SlippedStreamsModel" 122 ⟨"SlippedStreamsModel", "howMany", "(I)I"⟩ ∈ q_big := q_mem 929 (by decide +kernel) rfl
theorem k_931 : Cond.instanceMethod ⟨"SlippedStreamsModel", "howMany", "(I)I"⟩ ∈ q_big := q_mem 931 (by decide +kernel) rfl
set_option maxRecDepth 100000 in
theorem k_932 : Cond.code ⟨"SlippedStreamsModel", "howMany", "(I)I"⟩ prog_13_method_12_code 2 (some .int) ∈ q_big := q_mem 932 (rfl) rfl
theorem k_933 : Cond.methodLink "SlippedStreamsModel" 112 ⟨"SlippedStreamsModel", "handed", "(II)I"⟩ ∈ q_big := q_mem 933 (by decide +kernel) rfl
theorem k_935 : Cond.instanceMethod ⟨"SlippedStreamsModel", "handed", "(II)I"⟩ ∈ q_big := q_mem 935 (by decide +kernel) rfl
set_option maxRecDepth 100000 in
theorem k_936 : Cond.code ⟨"SlippedStreamsModel", "handed", "(II)I"⟩ prog_13_method_11_code 7 (some .int) ∈ q_big := q_mem 936 (rfl) rfl
theorem k_937 : Cond.methodLink "SlippedStreamsModel" 108 ⟨"SlippedStreamsModel", "reads", "(II)I"⟩ ∈ q_big := q_mem 937 (by decide +kernel) rfl
theorem k_939 : Cond.instanceMethod ⟨"SlippedStreamsModel", "reads", "(II)I"⟩ ∈ q_big := q_mem 939 (by decide +kernel) rfl
set_option maxRecDepth 100000 in
theorem k_940 : Cond.code ⟨"SlippedStreamsModel", "reads", "(II)I"⟩ prog_13_method_10_code 4 (some .int) ∈ q_big := q_mem 940 (rfl) rfl
theorem k_954 : Cond.methodLink "SlippedStreamsModel" 184 ⟨"SlippedStreamsModel", "isCount", "(I)Z"⟩ ∈ q_big := q_mem 954 (by decide +kernel) rfl
theorem k_955 : Cond.static ⟨"SlippedStreamsModel", "isCount", "(I)Z"⟩ ∈ q_big := q_mem 955 (by decide +kernel) rfl
set_option maxRecDepth 100000 in
theorem k_956 : Cond.code ⟨"SlippedStreamsModel", "isCount", "(I)Z"⟩ prog_13_method_34_code 1 (some .boolean) ∈ q_big := q_mem 956 (rfl) rfl
theorem k_957 : Cond.methodLink "SlippedStreamsModel" 187 ⟨"SlippedStreamsModel", "moveAddress", "()Z"⟩ ∈ q_big := q_mem 957 (by decide +kernel) rfl
theorem k_959 : Cond.instanceMethod ⟨"SlippedStreamsModel", "moveAddress", "()Z"⟩ ∈ q_big := q_mem 959 (by decide +kernel) rfl
set_option maxRecDepth 100000 in
theorem k_960 : Cond.code ⟨"SlippedStreamsModel", "moveAddress", "()Z"⟩ prog_13_method_28_code 4 (some .boolean) ∈ q_big := q_mem 960 (rfl) rfl
theorem k_961 : Cond.methodLink "SlippedStreamsModel" 154 ⟨"SlippedStreamsModel", "load", "(I)Z"⟩ ∈ q_big := q_mem 961 (by decide +kernel) rfl
theorem k_963 : Cond.instanceMethod ⟨"SlippedStreamsModel", "load", "(I)Z"⟩ ∈ q_big := q_mem 963 (by decide +kernel) rfl
set_option maxRecDepth 100000 in
theorem k_964 : Cond.code ⟨"SlippedStreamsModel", "load", "(I)Z"⟩ prog_13_method_25_code 4 (some .boolean) ∈ q_big := q_mem 964 (rfl) rfl
theorem k_965 : Cond.methodLink "SlippedStreamsModel" 133 ⟨"SlippedStreamsModel", "isInList", "(I)Z"⟩ ∈ q_big := q_mem 965 (by decide +kernel) rfl
theorem k_967 : Cond.instanceMethod ⟨"SlippedStreamsModel", "isInList", "(I)Z"⟩ ∈ q_big := q_mem 967 (by decide +kernel) rfl
set_option maxRecDepth 100000 in
theorem k_968 : Cond.code ⟨"SlippedStreamsModel", "isInList", "(I)Z"⟩ prog_13_method_21_code 4 (some .boolean) ∈ q_big := q_mem 968 (rfl) rfl
theorem k_969 : Cond.methodLink "SlippedStreamsModel" 136 ⟨"SlippedStreamsModel", "hasRoom", "(II)Z"⟩ ∈ q_big := q_mem 969 (by decide +kernel) rfl
theorem k_971 : Cond.instanceMethod ⟨"SlippedStreamsModel", "hasRoom", "(II)Z"⟩ ∈ q_big := q_mem 971 (by decide +kernel) rfl
set_option maxRecDepth 100000 in
theorem k_972 : Cond.code ⟨"SlippedStreamsModel", "hasRoom", "(II)Z"⟩ prog_13_method_17_code 3 (some .boolean) ∈ q_big := q_mem 972 (rfl) rfl
theorem k_973 : Cond.methodLink "SlippedStreamsModel" 129 ⟨"SlippedStreamsModel", "put", "(II)V"⟩ ∈ q_big := q_mem 973 (by decide +kernel) rfl
theorem k_975 : Cond.instanceMethod ⟨"SlippedStreamsModel", "put", "(II)V"⟩ ∈ q_big := q_mem 975 (by decide +kernel) rfl
set_option maxRecDepth 100000 in
theorem k_976 : Cond.code ⟨"SlippedStreamsModel", "put", "(II)V"⟩ prog_13_method_18_code 3 none ∈ q_big := q_mem 976 (rfl) rfl
theorem k_977 : Cond.methodLink "SlippedStreamsModel" 139 ⟨"SlippedStreamsModel", "leave", "(II)V"⟩ ∈ q_big := q_mem 977 (by decide +kernel) rfl
theorem k_979 : Cond.instanceMethod ⟨"SlippedStreamsModel", "leave", "(II)V"⟩ ∈ q_big := q_mem 979 (by decide +kernel) rfl
set_option maxRecDepth 100000 in
theorem k_980 : Cond.code ⟨"SlippedStreamsModel", "leave", "(II)V"⟩ prog_13_method_16_code 3 none ∈ q_big := q_mem 980 (rfl) rfl
theorem k_981 : Cond.methodLink "SlippedStreamsModel" 157 ⟨"SlippedStreamsModel", "store", "(I)Z"⟩ ∈ q_big := q_mem 981 (by decide +kernel) rfl
theorem k_983 : Cond.instanceMethod ⟨"SlippedStreamsModel", "store", "(I)Z"⟩ ∈ q_big := q_mem 983 (by decide +kernel) rfl
set_option maxRecDepth 100000 in
theorem k_984 : Cond.code ⟨"SlippedStreamsModel", "store", "(I)Z"⟩ prog_13_method_26_code 3 (some .boolean) ∈ q_big := q_mem 984 (rfl) rfl
theorem k_985 : Cond.methodLink "SlippedStreamsModel" 142 ⟨"SlippedStreamsModel", "take", "(I)I"⟩ ∈ q_big := q_mem 985 (by decide +kernel) rfl
theorem k_987 : Cond.instanceMethod ⟨"SlippedStreamsModel", "take", "(I)I"⟩ ∈ q_big := q_mem 987 (by decide +kernel) rfl
set_option maxRecDepth 100000 in
theorem k_988 : Cond.code ⟨"SlippedStreamsModel", "take", "(I)I"⟩ prog_13_method_19_code 4 (some .int) ∈ q_big := q_mem 988 (rfl) rfl
theorem k_989 : Cond.methodLink "SlippedStreamsModel" 145 ⟨"SlippedStreamsModel", "drain", "()V"⟩ ∈ q_big := q_mem 989 (by decide +kernel) rfl
theorem k_991 : Cond.instanceMethod ⟨"SlippedStreamsModel", "drain", "()V"⟩ ∈ q_big := q_mem 991 (by decide +kernel) rfl
set_option maxRecDepth 100000 in
theorem k_992 : Cond.code ⟨"SlippedStreamsModel", "drain", "()V"⟩ prog_13_method_20_code 2 none ∈ q_big := q_mem 992 (rfl) rfl
theorem k_993 : Cond.methodLink "SlippedStreamsModel" 160 ⟨"SlippedStreamsModel", "follow", "(I)Z"⟩ ∈ q_big := q_mem 993 (by decide +kernel) rfl
theorem k_995 : Cond.instanceMethod ⟨"SlippedStreamsModel", "follow", "(I)Z"⟩ ∈ q_big := q_mem 995 (by decide +kernel) rfl
set_option maxRecDepth 100000 in
theorem k_996 : Cond.code ⟨"SlippedStreamsModel", "follow", "(I)Z"⟩ prog_13_method_27_code 3 (some .boolean) ∈ q_big := q_mem 996 (rfl) rfl
theorem k_997 : Cond.methodLink "SlippedStreamsModel" 148 ⟨"SlippedStreamsModel", "hand", "(I)V"⟩ ∈ q_big := q_mem 997 (by decide +kernel) rfl
theorem k_999 : Cond.instanceMethod ⟨"SlippedStreamsModel", "hand", "(I)V"⟩ ∈ q_big := q_mem 999 (by decide +kernel) rfl
set_option maxRecDepth 100000 in
theorem k_1000 : Cond.code ⟨"SlippedStreamsModel", "hand", "(I)V"⟩ prog_13_method_24_code 3 none ∈ q_big := q_mem 1000 (rfl) rfl
theorem k_1001 : Cond.methodLink "SlippedStreamsModel" 163 ⟨"SlippedStreamsModel", "holds", "(III)Z"⟩ ∈ q_big := q_mem 1001 (by decide +kernel) rfl
theorem k_1002 : Cond.static ⟨"SlippedStreamsModel", "holds", "(III)Z"⟩ ∈ q_big := q_mem 1002 (by decide +kernel) rfl
set_option maxRecDepth 100000 in
theorem k_1003 : Cond.code ⟨"SlippedStreamsModel", "holds", "(III)Z"⟩ prog_13_method_23_code 3 (some .boolean) ∈ q_big := q_mem 1003 (rfl) rfl
theorem k_1004 : Cond.methodLink "SlippedStreamsModel" 167 ⟨"SlippedStreamsModel", "reckon", "(III)I"⟩ ∈ q_big := q_mem 1004 (by decide +kernel) rfl
theorem k_1005 : Cond.static ⟨"SlippedStreamsModel", "reckon", "(III)I"⟩ ∈ q_big := q_mem 1005 (by decide +kernel) rfl
set_option maxRecDepth 100000 in
theorem k_1006 : Cond.code ⟨"SlippedStreamsModel", "reckon", "(III)I"⟩ prog_13_method_22_code 3 (some .int) ∈ q_big := q_mem 1006 (rfl) rfl
theorem k_1011 : Cond.methodLink "SlippedStreamsModel" 191 ⟨"SlippedStreamsModel", "moveValue", "()Z"⟩ ∈ q_big := q_mem 1011 (by decide +kernel) rfl
theorem k_1013 : Cond.instanceMethod ⟨"SlippedStreamsModel", "moveValue", "()Z"⟩ ∈ q_big := q_mem 1013 (by decide +kernel) rfl
set_option maxRecDepth 100000 in
theorem k_1014 : Cond.code ⟨"SlippedStreamsModel", "moveValue", "()Z"⟩ prog_13_method_33_code 2 (some .boolean) ∈ q_big := q_mem 1014 (rfl) rfl
theorem k_1015 : Cond.methodLink "SlippedStreamsModel" 178 ⟨"SlippedStreamsModel", "give", "(I)Z"⟩ ∈ q_big := q_mem 1015 (by decide +kernel) rfl
theorem k_1017 : Cond.instanceMethod ⟨"SlippedStreamsModel", "give", "(I)Z"⟩ ∈ q_big := q_mem 1017 (by decide +kernel) rfl
set_option maxRecDepth 100000 in
theorem k_1018 : Cond.code ⟨"SlippedStreamsModel", "give", "(I)Z"⟩ prog_13_method_30_code 4 (some .boolean) ∈ q_big := q_mem 1018 (rfl) rfl
theorem k_1019 : Cond.methodLink "SlippedStreamsModel" 181 ⟨"SlippedStreamsModel", "work", "(I)Z"⟩ ∈ q_big := q_mem 1019 (by decide +kernel) rfl
theorem k_1021 : Cond.instanceMethod ⟨"SlippedStreamsModel", "work", "(I)Z"⟩ ∈ q_big := q_mem 1021 (by decide +kernel) rfl
set_option maxRecDepth 100000 in
theorem k_1022 : Cond.code ⟨"SlippedStreamsModel", "work", "(I)Z"⟩ prog_13_method_32_code 7 (some .boolean) ∈ q_big := q_mem 1022 (rfl) rfl
theorem k_1023 : Cond.methodLink "SlippedStreamsModel" 171 ⟨"SlippedStreamsModel", "valueOf", "(II)I"⟩ ∈ q_big := q_mem 1023 (by decide +kernel) rfl
theorem k_1025 : Cond.instanceMethod ⟨"SlippedStreamsModel", "valueOf", "(II)I"⟩ ∈ q_big := q_mem 1025 (by decide +kernel) rfl
set_option maxRecDepth 100000 in
theorem k_1026 : Cond.code ⟨"SlippedStreamsModel", "valueOf", "(II)I"⟩ prog_13_method_29_code 4 (some .int) ∈ q_big := q_mem 1026 (rfl) rfl
theorem k_1027 : Cond.methodLink "SlippedStreamsModel" 174 ⟨"SlippedStreamsModel", "write", "(III)V"⟩ ∈ q_big := q_mem 1027 (by decide +kernel) rfl
theorem k_1029 : Cond.instanceMethod ⟨"SlippedStreamsModel", "write", "(III)V"⟩ ∈ q_big := q_mem 1029 (by decide +kernel) rfl
set_option maxRecDepth 100000 in
theorem k_1030 : Cond.code ⟨"SlippedStreamsModel", "write", "(III)V"⟩ prog_13_method_31_code 4 none ∈ q_big := q_mem 1030 (rfl) rfl
theorem k_1039 : Cond.methodLink "SlippedStreamsModel" 194 ⟨"SlippedStreamsModel", "plainStep", "()V"⟩ ∈ q_big := q_mem 1039 (by decide +kernel) rfl
theorem k_1041 : Cond.instanceMethod ⟨"SlippedStreamsModel", "plainStep", "()V"⟩ ∈ q_big := q_mem 1041 (by decide +kernel) rfl
set_option maxRecDepth 100000 in
theorem k_1042 : Cond.code ⟨"SlippedStreamsModel", "plainStep", "()V"⟩ prog_13_method_38_code 5 none ∈ q_big := q_mem 1042 (rfl) rfl
theorem k_1083 : Cond.sameMethod "SlippedStreams$Stream" "SlippedStreams$Stream" "begin" "()V" ∈ q_big := q_mem 1083 (by decide +kernel) rfl
theorem k_1084 : Cond.sameMethod "SlippedStreams$Stream" "SlippedStreams$Stream" "goOver" "()V" ∈ q_big := q_mem 1084 (by decide +kernel) rfl
theorem k_1085 : Cond.sameMethod "SlippedStreams$Stream" "SlippedStreams$Stream" "leaveFor" "(I)Z" ∈ q_big := q_mem 1085 (by decide +kernel) rfl
theorem k_1086 : Cond.selects "SlippedStreams$AddressStream" ⟨"SlippedStreams$Stream", "leaveFor", "(I)Z"⟩ ⟨"SlippedStreams$Stream", "leaveFor", "(I)Z"⟩ ∈ q_big := q_mem 1086 (by decide +kernel) rfl
theorem k_1087 : Cond.selects "SlippedStreams$ValueStream" ⟨"SlippedStreams$Stream", "leaveFor", "(I)Z"⟩ ⟨"SlippedStreams$Stream", "leaveFor", "(I)Z"⟩ ∈ q_big := q_mem 1087 (by decide +kernel) rfl
theorem k_1088 : Cond.sameMethod "SlippedStreams$Run" "SlippedStreams$Run" "combined" "(I)I" ∈ q_big := q_mem 1088 (by decide +kernel) rfl
theorem k_1089 : Cond.selects "SlippedStreams$AddressStream" ⟨"SlippedStreams$AddressStream", "step", "()Z"⟩ ⟨"SlippedStreams$AddressStream", "step", "()Z"⟩ ∈ q_big := q_mem 1089 (by decide +kernel) rfl
theorem k_1090 : Cond.selects "SlippedStreams$ValueStream" ⟨"SlippedStreams$ValueStream", "step", "()Z"⟩ ⟨"SlippedStreams$ValueStream", "step", "()Z"⟩ ∈ q_big := q_mem 1090 (by decide +kernel) rfl
theorem hin_SlippedStreams : ∀ w ∈ u_ws R_SlippedStreams F_SlippedStreams 7, w ∈ q_big := List.forall_mem_cons.mpr ⟨k_368, List.forall_mem_cons.mpr ⟨k_370, List.forall_mem_cons.mpr ⟨k_372, List.forall_mem_cons.mpr ⟨k_374, List.forall_mem_cons.mpr ⟨k_376, List.forall_mem_cons.mpr ⟨k_378, List.forall_mem_cons.mpr ⟨k_380, fun _ h => absurd h List.not_mem_nil⟩⟩⟩⟩⟩⟩⟩
theorem hin_Program : ∀ w ∈ u_ws R_Program F_Program 12, w ∈ q_big := List.forall_mem_cons.mpr ⟨k_120, List.forall_mem_cons.mpr ⟨k_122, List.forall_mem_cons.mpr ⟨k_124, List.forall_mem_cons.mpr ⟨k_126, List.forall_mem_cons.mpr ⟨k_128, List.forall_mem_cons.mpr ⟨k_130, List.forall_mem_cons.mpr ⟨k_132, List.forall_mem_cons.mpr ⟨k_134, List.forall_mem_cons.mpr ⟨k_136, List.forall_mem_cons.mpr ⟨k_138, List.forall_mem_cons.mpr ⟨k_140, List.forall_mem_cons.mpr ⟨k_142, fun _ h => absurd h List.not_mem_nil⟩⟩⟩⟩⟩⟩⟩⟩⟩⟩⟩⟩
theorem hin_Link : ∀ w ∈ u_ws R_Link F_Link 7, w ∈ q_big := List.forall_mem_cons.mpr ⟨k_226, List.forall_mem_cons.mpr ⟨k_228, List.forall_mem_cons.mpr ⟨k_230, List.forall_mem_cons.mpr ⟨k_232, List.forall_mem_cons.mpr ⟨k_234, List.forall_mem_cons.mpr ⟨k_236, List.forall_mem_cons.mpr ⟨k_238, fun _ h => absurd h List.not_mem_nil⟩⟩⟩⟩⟩⟩⟩
theorem hin_Fifo : ∀ w ∈ u_ws R_Fifo F_Fifo 3, w ∈ q_big := List.forall_mem_cons.mpr ⟨k_166, List.forall_mem_cons.mpr ⟨k_168, List.forall_mem_cons.mpr ⟨k_170, fun _ h => absurd h List.not_mem_nil⟩⟩⟩
theorem hin_StoreList : ∀ w ∈ u_ws R_StoreList F_StoreList 6, w ∈ q_big := List.forall_mem_cons.mpr ⟨k_186, List.forall_mem_cons.mpr ⟨k_188, List.forall_mem_cons.mpr ⟨k_190, List.forall_mem_cons.mpr ⟨k_192, List.forall_mem_cons.mpr ⟨k_194, List.forall_mem_cons.mpr ⟨k_196, fun _ h => absurd h List.not_mem_nil⟩⟩⟩⟩⟩⟩
theorem hin_AddressStream : ∀ w ∈ u_ws R_AddressStream F_AddressStream 7, w ∈ q_big := List.forall_mem_cons.mpr ⟨k_295, List.forall_mem_cons.mpr ⟨k_297, List.forall_mem_cons.mpr ⟨k_299, List.forall_mem_cons.mpr ⟨k_301, List.forall_mem_cons.mpr ⟨k_303, List.forall_mem_cons.mpr ⟨k_305, List.forall_mem_cons.mpr ⟨k_307, fun _ h => absurd h List.not_mem_nil⟩⟩⟩⟩⟩⟩⟩
theorem hin_ValueStream : ∀ w ∈ u_ws R_ValueStream F_ValueStream 7, w ∈ q_big := List.forall_mem_cons.mpr ⟨k_332, List.forall_mem_cons.mpr ⟨k_334, List.forall_mem_cons.mpr ⟨k_335, List.forall_mem_cons.mpr ⟨k_336, List.forall_mem_cons.mpr ⟨k_337, List.forall_mem_cons.mpr ⟨k_338, List.forall_mem_cons.mpr ⟨k_339, fun _ h => absurd h List.not_mem_nil⟩⟩⟩⟩⟩⟩⟩
theorem hin_Written : ∀ w ∈ u_ws R_Written F_Written 2, w ∈ q_big := List.forall_mem_cons.mpr ⟨k_325, List.forall_mem_cons.mpr ⟨k_327, fun _ h => absurd h List.not_mem_nil⟩⟩
theorem hin_PlainRun : ∀ w ∈ u_ws R_PlainRun F_PlainRun 5, w ∈ q_big := List.forall_mem_cons.mpr ⟨k_353, List.forall_mem_cons.mpr ⟨k_355, List.forall_mem_cons.mpr ⟨k_357, List.forall_mem_cons.mpr ⟨k_358, List.forall_mem_cons.mpr ⟨k_359, fun _ h => absurd h List.not_mem_nil⟩⟩⟩⟩⟩
theorem hin_SlippedStreamsModel : ∀ w ∈ u_ws R_SlippedStreamsModel F_SlippedStreamsModel 27, w ∈ q_big := List.forall_mem_cons.mpr ⟨k_840, List.forall_mem_cons.mpr ⟨k_842, List.forall_mem_cons.mpr ⟨k_844, List.forall_mem_cons.mpr ⟨k_846, List.forall_mem_cons.mpr ⟨k_848, List.forall_mem_cons.mpr ⟨k_850, List.forall_mem_cons.mpr ⟨k_852, List.forall_mem_cons.mpr ⟨k_854, List.forall_mem_cons.mpr ⟨k_856, List.forall_mem_cons.mpr ⟨k_858, List.forall_mem_cons.mpr ⟨k_860, List.forall_mem_cons.mpr ⟨k_862, List.forall_mem_cons.mpr ⟨k_864, List.forall_mem_cons.mpr ⟨k_866, List.forall_mem_cons.mpr ⟨k_868, List.forall_mem_cons.mpr ⟨k_870, List.forall_mem_cons.mpr ⟨k_872, List.forall_mem_cons.mpr ⟨k_874, List.forall_mem_cons.mpr ⟨k_876, List.forall_mem_cons.mpr ⟨k_878, List.forall_mem_cons.mpr ⟨k_880, List.forall_mem_cons.mpr ⟨k_882, List.forall_mem_cons.mpr ⟨k_884, List.forall_mem_cons.mpr ⟨k_886, List.forall_mem_cons.mpr ⟨k_888, List.forall_mem_cons.mpr ⟨k_890, List.forall_mem_cons.mpr ⟨k_892, fun _ h => absurd h List.not_mem_nil⟩⟩⟩⟩⟩⟩⟩⟩⟩⟩⟩⟩⟩⟩⟩⟩⟩⟩⟩⟩⟩⟩⟩⟩⟩⟩⟩
abbrev w_SlippedStreams_init : List Cond := Cond.code y_SlippedStreams_init b_SlippedStreams_init 1 none :: q_big
abbrev w_SlippedStreams_add : List Cond := Cond.code y_SlippedStreams_add b_SlippedStreams_add 6 (some .int) :: q_big
abbrev w_SlippedStreams_fill : List Cond := Cond.code y_SlippedStreams_fill b_SlippedStreams_fill 4 none :: q_big
abbrev w_SlippedStreams_clear : List Cond := Cond.code y_SlippedStreams_clear b_SlippedStreams_clear 2 (some .int) :: q_big
abbrev w_SlippedStreams_reset : List Cond := Cond.code y_SlippedStreams_reset b_SlippedStreams_reset 1 none :: q_big
abbrev w_SlippedStreams_streamOf : List Cond := Cond.code y_SlippedStreams_streamOf b_SlippedStreams_streamOf 2 (some .int) :: q_big
abbrev w_SlippedStreams_addressRegisters : List Cond := Cond.code y_SlippedStreams_addressRegisters b_SlippedStreams_addressRegisters 1 (some .int) :: q_big
abbrev w_SlippedStreams_address : List Cond := Cond.code y_SlippedStreams_address b_SlippedStreams_address 3 (some .int) :: q_big
abbrev w_SlippedStreams_value : List Cond := Cond.code y_SlippedStreams_value b_SlippedStreams_value 2 (some .int) :: q_big
abbrev w_SlippedStreams_both : List Cond := Cond.code y_SlippedStreams_both b_SlippedStreams_both 4 (some .int) :: q_big
abbrev w_SlippedStreams_place : List Cond := Cond.code y_SlippedStreams_place b_SlippedStreams_place 2 (some .int) :: q_big
abbrev w_SlippedStreams_slip : List Cond := Cond.code y_SlippedStreams_slip b_SlippedStreams_slip 1 (some .int) :: q_big
abbrev w_SlippedStreams_queue : List Cond := Cond.code y_SlippedStreams_queue b_SlippedStreams_queue 2 (some .int) :: q_big
abbrev w_SlippedStreams_register : List Cond := Cond.code y_SlippedStreams_register b_SlippedStreams_register 3 (some .int) :: q_big
abbrev w_SlippedStreams_peek : List Cond := Cond.code y_SlippedStreams_peek b_SlippedStreams_peek 4 (some .int) :: q_big
abbrev w_SlippedStreams_losses : List Cond := Cond.code y_SlippedStreams_losses b_SlippedStreams_losses 1 (some .int) :: q_big
abbrev w_SlippedStreams_plain : List Cond := Cond.code y_SlippedStreams_plain b_SlippedStreams_plain 2 (some .int) :: q_big
abbrev w_SlippedStreams_outputs : List Cond := Cond.code y_SlippedStreams_outputs b_SlippedStreams_outputs 2 (some .int) :: q_big
abbrev w_SlippedStreams_output : List Cond := Cond.code y_SlippedStreams_output b_SlippedStreams_output 3 (some .int) :: q_big
abbrev w_SlippedStreams_beginAnew : List Cond := Cond.code y_SlippedStreams_beginAnew b_SlippedStreams_beginAnew 1 none :: q_big
abbrev w_SlippedStreams_noteLoss : List Cond := Cond.code y_SlippedStreams_noteLoss b_SlippedStreams_noteLoss 1 none :: q_big
abbrev w_SlippedStreams_isMoveCount : List Cond := Cond.code y_SlippedStreams_isMoveCount b_SlippedStreams_isMoveCount 1 (some .boolean) :: q_big
abbrev w_SlippedStreams_isRegister : List Cond := Cond.code y_SlippedStreams_isRegister b_SlippedStreams_isRegister 1 (some .boolean) :: q_big
abbrev w_SlippedStreamsModel_init : List Cond := Cond.code y_SlippedStreamsModel_init b_SlippedStreamsModel_init 1 none :: q_big
abbrev w_SlippedStreamsModel_isRegister : List Cond := Cond.code y_SlippedStreamsModel_isRegister b_SlippedStreamsModel_isRegister 1 (some .boolean) :: q_big
abbrev w_SlippedStreamsModel_add : List Cond := Cond.code y_SlippedStreamsModel_add b_SlippedStreamsModel_add 6 (some .int) :: q_big
abbrev w_SlippedStreamsModel_fill : List Cond := Cond.code y_SlippedStreamsModel_fill b_SlippedStreamsModel_fill 3 none :: q_big
abbrev w_SlippedStreamsModel_clear : List Cond := Cond.code y_SlippedStreamsModel_clear b_SlippedStreamsModel_clear 2 (some .int) :: q_big
abbrev w_SlippedStreamsModel_reset : List Cond := Cond.code y_SlippedStreamsModel_reset b_SlippedStreamsModel_reset 2 none :: q_big
abbrev w_SlippedStreamsModel_reckons : List Cond := Cond.code y_SlippedStreamsModel_reckons b_SlippedStreamsModel_reckons 1 (some .boolean) :: q_big
abbrev w_SlippedStreamsModel_slice : List Cond := Cond.code y_SlippedStreamsModel_slice b_SlippedStreamsModel_slice 4 none :: q_big
abbrev w_SlippedStreamsModel_belongs : List Cond := Cond.code y_SlippedStreamsModel_belongs b_SlippedStreamsModel_belongs 3 (some .int) :: q_big
abbrev w_SlippedStreamsModel_reads : List Cond := Cond.code y_SlippedStreamsModel_reads b_SlippedStreamsModel_reads 4 (some .int) :: q_big
abbrev w_SlippedStreamsModel_handed : List Cond := Cond.code y_SlippedStreamsModel_handed b_SlippedStreamsModel_handed 7 (some .int) :: q_big
abbrev w_SlippedStreamsModel_howMany : List Cond := Cond.code y_SlippedStreamsModel_howMany b_SlippedStreamsModel_howMany 2 (some .int) :: q_big
abbrev w_SlippedStreamsModel_isBranch : List Cond := Cond.code y_SlippedStreamsModel_isBranch b_SlippedStreamsModel_isBranch 2 (some .boolean) :: q_big
abbrev w_SlippedStreamsModel_isNothing : List Cond := Cond.code y_SlippedStreamsModel_isNothing b_SlippedStreamsModel_isNothing 4 (some .boolean) :: q_big
abbrev w_SlippedStreamsModel_goOver : List Cond := Cond.code y_SlippedStreamsModel_goOver b_SlippedStreamsModel_goOver 2 none :: q_big
abbrev w_SlippedStreamsModel_leave : List Cond := Cond.code y_SlippedStreamsModel_leave b_SlippedStreamsModel_leave 3 none :: q_big
abbrev w_SlippedStreamsModel_hasRoom : List Cond := Cond.code y_SlippedStreamsModel_hasRoom b_SlippedStreamsModel_hasRoom 3 (some .boolean) :: q_big
abbrev w_SlippedStreamsModel_put : List Cond := Cond.code y_SlippedStreamsModel_put b_SlippedStreamsModel_put 3 none :: q_big
abbrev w_SlippedStreamsModel_take : List Cond := Cond.code y_SlippedStreamsModel_take b_SlippedStreamsModel_take 4 (some .int) :: q_big
abbrev w_SlippedStreamsModel_drain : List Cond := Cond.code y_SlippedStreamsModel_drain b_SlippedStreamsModel_drain 2 none :: q_big
abbrev w_SlippedStreamsModel_isInList : List Cond := Cond.code y_SlippedStreamsModel_isInList b_SlippedStreamsModel_isInList 4 (some .boolean) :: q_big
abbrev w_SlippedStreamsModel_reckon : List Cond := Cond.code y_SlippedStreamsModel_reckon b_SlippedStreamsModel_reckon 3 (some .int) :: q_big
abbrev w_SlippedStreamsModel_holds : List Cond := Cond.code y_SlippedStreamsModel_holds b_SlippedStreamsModel_holds 3 (some .boolean) :: q_big
abbrev w_SlippedStreamsModel_hand : List Cond := Cond.code y_SlippedStreamsModel_hand b_SlippedStreamsModel_hand 3 none :: q_big
abbrev w_SlippedStreamsModel_load : List Cond := Cond.code y_SlippedStreamsModel_load b_SlippedStreamsModel_load 4 (some .boolean) :: q_big
abbrev w_SlippedStreamsModel_store : List Cond := Cond.code y_SlippedStreamsModel_store b_SlippedStreamsModel_store 3 (some .boolean) :: q_big
abbrev w_SlippedStreamsModel_follow : List Cond := Cond.code y_SlippedStreamsModel_follow b_SlippedStreamsModel_follow 3 (some .boolean) :: q_big
abbrev w_SlippedStreamsModel_moveAddress : List Cond := Cond.code y_SlippedStreamsModel_moveAddress b_SlippedStreamsModel_moveAddress 4 (some .boolean) :: q_big
abbrev w_SlippedStreamsModel_valueOf : List Cond := Cond.code y_SlippedStreamsModel_valueOf b_SlippedStreamsModel_valueOf 4 (some .int) :: q_big
abbrev w_SlippedStreamsModel_give : List Cond := Cond.code y_SlippedStreamsModel_give b_SlippedStreamsModel_give 4 (some .boolean) :: q_big
abbrev w_SlippedStreamsModel_write : List Cond := Cond.code y_SlippedStreamsModel_write b_SlippedStreamsModel_write 4 none :: q_big
abbrev w_SlippedStreamsModel_work : List Cond := Cond.code y_SlippedStreamsModel_work b_SlippedStreamsModel_work 7 (some .boolean) :: q_big
abbrev w_SlippedStreamsModel_moveValue : List Cond := Cond.code y_SlippedStreamsModel_moveValue b_SlippedStreamsModel_moveValue 2 (some .boolean) :: q_big
abbrev w_SlippedStreamsModel_isCount : List Cond := Cond.code y_SlippedStreamsModel_isCount b_SlippedStreamsModel_isCount 1 (some .boolean) :: q_big
abbrev w_SlippedStreamsModel_address : List Cond := Cond.code y_SlippedStreamsModel_address b_SlippedStreamsModel_address 3 (some .int) :: q_big
abbrev w_SlippedStreamsModel_value : List Cond := Cond.code y_SlippedStreamsModel_value b_SlippedStreamsModel_value 3 (some .int) :: q_big
abbrev w_SlippedStreamsModel_both : List Cond := Cond.code y_SlippedStreamsModel_both b_SlippedStreamsModel_both 4 (some .int) :: q_big
abbrev w_SlippedStreamsModel_plainStep : List Cond := Cond.code y_SlippedStreamsModel_plainStep b_SlippedStreamsModel_plainStep 5 none :: q_big
abbrev w_SlippedStreamsModel_plain : List Cond := Cond.code y_SlippedStreamsModel_plain b_SlippedStreamsModel_plain 3 (some .int) :: q_big
abbrev w_SlippedStreamsModel_streamOf : List Cond := Cond.code y_SlippedStreamsModel_streamOf b_SlippedStreamsModel_streamOf 2 (some .int) :: q_big
abbrev w_SlippedStreamsModel_addressRegisters : List Cond := Cond.code y_SlippedStreamsModel_addressRegisters b_SlippedStreamsModel_addressRegisters 3 (some .int) :: q_big
abbrev w_SlippedStreamsModel_place : List Cond := Cond.code y_SlippedStreamsModel_place b_SlippedStreamsModel_place 3 (some .int) :: q_big
abbrev w_SlippedStreamsModel_slip : List Cond := Cond.code y_SlippedStreamsModel_slip b_SlippedStreamsModel_slip 1 (some .int) :: q_big
abbrev w_SlippedStreamsModel_queue : List Cond := Cond.code y_SlippedStreamsModel_queue b_SlippedStreamsModel_queue 2 (some .int) :: q_big
abbrev w_SlippedStreamsModel_register : List Cond := Cond.code y_SlippedStreamsModel_register b_SlippedStreamsModel_register 3 (some .int) :: q_big
abbrev w_SlippedStreamsModel_peek : List Cond := Cond.code y_SlippedStreamsModel_peek b_SlippedStreamsModel_peek 3 (some .int) :: q_big
abbrev w_SlippedStreamsModel_losses : List Cond := Cond.code y_SlippedStreamsModel_losses b_SlippedStreamsModel_losses 1 (some .int) :: q_big
abbrev w_SlippedStreamsModel_outputs : List Cond := Cond.code y_SlippedStreamsModel_outputs b_SlippedStreamsModel_outputs 2 (some .int) :: q_big
abbrev w_SlippedStreamsModel_output : List Cond := Cond.code y_SlippedStreamsModel_output b_SlippedStreamsModel_output 4 (some .int) :: q_big
abbrev w_AddressStream_init : List Cond := Cond.code y_AddressStream_init b_AddressStream_init 3 none :: q_big
abbrev w_AddressStream_begin : List Cond := Cond.code y_AddressStream_begin b_AddressStream_begin 1 none :: q_big
abbrev w_AddressStream_step : List Cond := Cond.code y_AddressStream_step b_AddressStream_step 1 (some .boolean) :: q_big
abbrev w_AddressStream_isAtOutcome : List Cond := Cond.code y_AddressStream_isAtOutcome b_AddressStream_isAtOutcome 1 (some .boolean) :: q_big
abbrev w_AddressStream_doOwn : List Cond := Cond.code y_AddressStream_doOwn b_AddressStream_doOwn 2 (some .boolean) :: q_big
abbrev w_AddressStream_load : List Cond := Cond.code y_AddressStream_load b_AddressStream_load 3 (some .boolean) :: q_big
abbrev w_AddressStream_store : List Cond := Cond.code y_AddressStream_store b_AddressStream_store 3 (some .boolean) :: q_big
abbrev w_AddressStream_serve : List Cond := Cond.code y_AddressStream_serve b_AddressStream_serve 3 (some .boolean) :: q_big
abbrev w_AddressStream_sendLoad : List Cond := Cond.code y_AddressStream_sendLoad b_AddressStream_sendLoad 3 (some .boolean) :: q_big
abbrev w_AddressStream_hand : List Cond := Cond.code y_AddressStream_hand b_AddressStream_hand 2 none :: q_big
abbrev w_Fifo_init : List Cond := Cond.code y_Fifo_init b_Fifo_init 2 none :: q_big
abbrev w_Fifo_empty : List Cond := Cond.code y_Fifo_empty b_Fifo_empty 1 none :: q_big
abbrev w_Fifo_hasRoomFor : List Cond := Cond.code y_Fifo_hasRoomFor b_Fifo_hasRoomFor 2 (some .boolean) :: q_big
abbrev w_Fifo_put : List Cond := Cond.code y_Fifo_put b_Fifo_put 3 none :: q_big
abbrev w_Fifo_take : List Cond := Cond.code y_Fifo_take b_Fifo_take 2 (some .int) :: q_big
abbrev w_Link_init : List Cond := Cond.code y_Link_init b_Link_init 1 none :: q_big
abbrev w_Link_begin : List Cond := Cond.code y_Link_begin b_Link_begin 2 none :: q_big
abbrev w_PlainRun_init : List Cond := Cond.code y_PlainRun_init b_PlainRun_init 2 none :: q_big
abbrev w_PlainRun_begin : List Cond := Cond.code y_PlainRun_begin b_PlainRun_begin 2 none :: q_big
abbrev w_PlainRun_step : List Cond := Cond.code y_PlainRun_step b_PlainRun_step 2 (some .boolean) :: q_big
abbrev w_PlainRun_perform : List Cond := Cond.code y_PlainRun_perform b_PlainRun_perform 3 none :: q_big
abbrev w_Program_init : List Cond := Cond.code y_Program_init b_Program_init 1 none :: q_big
abbrev w_Program_isSound : List Cond := Cond.code y_Program_isSound b_Program_isSound 4 (some .boolean) :: q_big
abbrev w_Program_append : List Cond := Cond.code y_Program_append b_Program_append 6 (some .int) :: q_big
abbrev w_Program_removeAll : List Cond := Cond.code y_Program_removeAll b_Program_removeAll 1 none :: q_big
abbrev w_Program_isAddressRegister : List Cond := Cond.code y_Program_isAddressRegister b_Program_isAddressRegister 2 (some .boolean) :: q_big
abbrev w_Program_isArithmetic : List Cond := Cond.code y_Program_isArithmetic b_Program_isArithmetic 2 (some .boolean) :: q_big
abbrev w_Program_isBranch : List Cond := Cond.code y_Program_isBranch b_Program_isBranch 2 (some .boolean) :: q_big
abbrev w_Program_slice : List Cond := Cond.code y_Program_slice b_Program_slice 2 none :: q_big
abbrev w_Program_findAddressRegisters : List Cond := Cond.code y_Program_findAddressRegisters b_Program_findAddressRegisters 3 none :: q_big
abbrev w_Program_belongsToAddresses : List Cond := Cond.code y_Program_belongsToAddresses b_Program_belongsToAddresses 2 (some .boolean) :: q_big
abbrev w_Program_findPassed : List Cond := Cond.code y_Program_findPassed b_Program_findPassed 5 none :: q_big
abbrev w_Program_findNothings : List Cond := Cond.code y_Program_findNothings b_Program_findNothings 4 none :: q_big
abbrev w_Program_firstRead : List Cond := Cond.code y_Program_firstRead b_Program_firstRead 2 (some .int) :: q_big
abbrev w_Program_secondRead : List Cond := Cond.code y_Program_secondRead b_Program_secondRead 2 (some .int) :: q_big
abbrev w_Run_init : List Cond := Cond.code y_Run_init b_Run_init 2 none :: q_big
abbrev w_Run_advance : List Cond := Cond.code y_Run_advance b_Run_advance 3 (some .int) :: q_big
abbrev w_Run_hasEnded : List Cond := Cond.code y_Run_hasEnded b_Run_hasEnded 1 (some .boolean) :: q_big
abbrev w_Run_position : List Cond := Cond.code y_Run_position b_Run_position 1 (some .int) :: q_big
abbrev w_Run_wordAddress : List Cond := Cond.code y_Run_wordAddress b_Run_wordAddress 2 (some .int) :: q_big
abbrev w_Run_behind : List Cond := Cond.code y_Run_behind b_Run_behind 3 (some .int) :: q_big
abbrev w_Run_test : List Cond := Cond.code y_Run_test b_Run_test 4 (some .boolean) :: q_big
abbrev w_Run_compute : List Cond := Cond.code y_Run_compute b_Run_compute 2 none :: q_big
abbrev w_Run_combined : List Cond := Cond.code y_Run_combined b_Run_combined 4 (some .int) :: q_big
abbrev w_StoreList_init : List Cond := Cond.code y_StoreList_init b_StoreList_init 2 none :: q_big
abbrev w_StoreList_empty : List Cond := Cond.code y_StoreList_empty b_StoreList_empty 1 none :: q_big
abbrev w_StoreList_isFull : List Cond := Cond.code y_StoreList_isFull b_StoreList_isFull 1 (some .boolean) :: q_big
abbrev w_StoreList_holds : List Cond := Cond.code y_StoreList_holds b_StoreList_holds 3 (some .boolean) :: q_big
abbrev w_StoreList_enter : List Cond := Cond.code y_StoreList_enter b_StoreList_enter 3 none :: q_big
abbrev w_StoreList_enterWith : List Cond := Cond.code y_StoreList_enterWith b_StoreList_enterWith 4 none :: q_big
abbrev w_StoreList_give : List Cond := Cond.code y_StoreList_give b_StoreList_give 2 (some .boolean) :: q_big
abbrev w_StoreList_know : List Cond := Cond.code y_StoreList_know b_StoreList_know 3 none :: q_big
abbrev w_StoreList_slot : List Cond := Cond.code y_StoreList_slot b_StoreList_slot 2 (some .int) :: q_big
abbrev w_Stream_init : List Cond := Cond.code y_Stream_init b_Stream_init 4 none :: q_big
abbrev w_Stream_begin : List Cond := Cond.code y_Stream_begin b_Stream_begin 1 none :: q_big
abbrev w_Stream_leaveFor : List Cond := Cond.code y_Stream_leaveFor b_Stream_leaveFor 2 (some .boolean) :: q_big
abbrev w_Stream_sendOutcome : List Cond := Cond.code y_Stream_sendOutcome b_Stream_sendOutcome 4 (some .boolean) :: q_big
abbrev w_Stream_followOutcome : List Cond := Cond.code y_Stream_followOutcome b_Stream_followOutcome 3 (some .boolean) :: q_big
abbrev w_Stream_goOver : List Cond := Cond.code y_Stream_goOver b_Stream_goOver 1 none :: q_big
abbrev w_ValueStream_init : List Cond := Cond.code y_ValueStream_init b_ValueStream_init 3 none :: q_big
abbrev w_ValueStream_begin : List Cond := Cond.code y_ValueStream_begin b_ValueStream_begin 1 none :: q_big
abbrev w_ValueStream_step : List Cond := Cond.code y_ValueStream_step b_ValueStream_step 1 (some .boolean) :: q_big
abbrev w_ValueStream_receiveLoad : List Cond := Cond.code y_ValueStream_receiveLoad b_ValueStream_receiveLoad 2 (some .boolean) :: q_big
abbrev w_ValueStream_doOwn : List Cond := Cond.code y_ValueStream_doOwn b_ValueStream_doOwn 3 (some .boolean) :: q_big
abbrev w_ValueStream_receive : List Cond := Cond.code y_ValueStream_receive b_ValueStream_receive 2 none :: q_big
abbrev w_ValueStream_giveStored : List Cond := Cond.code y_ValueStream_giveStored b_ValueStream_giveStored 3 (some .boolean) :: q_big
abbrev w_Written_init : List Cond := Cond.code y_Written_init b_Written_init 1 none :: q_big
abbrev w_Written_empty : List Cond := Cond.code y_Written_empty b_Written_empty 1 none :: q_big
abbrev w_Written_write : List Cond := Cond.code y_Written_write b_Written_write 2 none :: q_big
abbrev w_Written_thing : List Cond := Cond.code y_Written_thing b_Written_thing 2 (some .int) :: q_big
abbrev w_Object_init : List Cond := Cond.code y_Object_init b_Object_init 1 none :: q_big
abbrev w_Integer_bitCount : List Cond := Cond.code y_Integer_bitCount b_Integer_bitCount 1 (some .int) :: q_big
abbrev w_Math_min : List Cond := Cond.code y_Math_min b_Math_min 2 (some .int) :: q_big
abbrev w_Arrays_fill : List Cond := Cond.code y_Arrays_fill b_Arrays_fill 4 none :: q_big
