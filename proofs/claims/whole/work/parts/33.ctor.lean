/-- the tables, and the private constructors of nest mates -/
def KC (dC : Nat → ClassId) (dI : Nat → Nat → Nat) (cI cZ : ClassId) (U : State) : Prop := KX dC dI cI cZ U ∧ va_Nw (.methodLinkNest "SlippedStreams" 9 ⟨"SlippedStreams$Program", "<init>", "()V"⟩ "SlippedStreams") U ∧ va_Nw (.methodLinkNest "SlippedStreams$ValueStream" 17 ⟨"SlippedStreams$Written", "<init>", "()V"⟩ "SlippedStreams") U ∧ va_Nw (.methodLinkNest "SlippedStreams$PlainRun" 17 ⟨"SlippedStreams$Written", "<init>", "()V"⟩ "SlippedStreams") U
theorem qokC {dC : Nat → ClassId} {dI : Nat → Nat → Nat} {cI cZ : ClassId} : qOk (KC dC dI cI cZ) :=
  ⟨fun a U g mk h => ⟨qok.1 a U g mk h.1, va_Nw.same rfl rfl h.2.1, va_Nw.same rfl rfl h.2.2.1, va_Nw.same rfl rfl h.2.2.2⟩, fun s U hW h => ⟨qok.2 s U hW h.1, va_Nw.warmM hW h.2.1, va_Nw.warmM hW h.2.2.1, va_Nw.warmM hW h.2.2.2⟩⟩
theorem q_cI {D : va_G} {cl : List vw_C} {cI cZ cA : ClassId} {s : State} (h : va_K D cl ([(cI, .int), (cZ, .boolean)] ++ [(cA, .int)]) s) : cI = cA := by
  have h1 : s.vm.findClass ("[" ++ FieldType.int.toString) = some cI := (h.2 0 (cI, .int) rfl).2
  have h2 : s.vm.findClass ("[" ++ FieldType.int.toString) = some cA := (h.2 2 (cA, .int) rfl).2
  exact Option.some.inj (h1.symm.trans h2)
theorem q_cZ {D : va_G} {cl : List vw_C} {cI cZ cA : ClassId} {s : State} (h : va_K D cl ([(cI, .int), (cZ, .boolean)] ++ [(cA, .boolean)]) s) : cZ = cA := by
  have h1 : s.vm.findClass ("[" ++ FieldType.boolean.toString) = some cZ := (h.2 1 (cZ, .boolean) rfl).2
  have h2 : s.vm.findClass ("[" ++ FieldType.boolean.toString) = some cA := (h.2 2 (cA, .boolean) rfl).2
  exact Option.some.inj (h1.symm.trans h2)
theorem k_74 : Cond.methodLink "SlippedStreams" 1 ⟨"java/lang/Object", "<init>", "()V"⟩ ∈ q_big := q_mem 74 (by decide +kernel) rfl
theorem k_75 : Cond.instanceMethod ⟨"java/lang/Object", "<init>", "()V"⟩ ∈ q_big := q_mem 75 (by decide +kernel) rfl
set_option maxRecDepth 100000 in
theorem k_76 : Cond.code ⟨"java/lang/Object", "<init>", "()V"⟩ object_method_1_code 1 none ∈ q_big := q_mem 76 (rfl) rfl
theorem k_77 : Cond.classLink "SlippedStreams" 7 "SlippedStreams$Program" ∈ q_big := q_mem 77 (by decide +kernel) rfl
theorem k_78 : Cond.instantiable "SlippedStreams$Program" 12 ∈ q_big := q_mem 78 (by decide +kernel) rfl
theorem k_80 : Cond.instanceMethod ⟨"SlippedStreams$Program", "<init>", "()V"⟩ ∈ q_big := q_mem 80 (by decide +kernel) rfl
set_option maxRecDepth 100000 in
theorem k_81 : Cond.code ⟨"SlippedStreams$Program", "<init>", "()V"⟩ prog_6_method_1_code 1 none ∈ q_big := q_mem 81 (rfl) rfl
theorem k_82 : Cond.methodLink "SlippedStreams$Program" 3 ⟨"java/lang/Object", "<init>", "()V"⟩ ∈ q_big := q_mem 82 (by decide +kernel) rfl
theorem k_110 : Cond.fieldLink "SlippedStreams$AddressStream" 3 "SlippedStreams$Program" "nothingForAddresses" "[Z" ∈ q_big := q_mem 110 (by decide +kernel) rfl
theorem k_112 : Cond.fieldLink "SlippedStreams$ValueStream" 3 "SlippedStreams$Program" "nothingForValues" "[Z" ∈ q_big := q_mem 112 (by decide +kernel) rfl
theorem k_145 : Cond.arrayClass .int ∈ q_big := q_mem 145 (by decide +kernel) rfl
theorem k_146 : Cond.arrayClass .boolean ∈ q_big := q_mem 146 (by decide +kernel) rfl
theorem k_147 : Cond.classLink "SlippedStreams" 20 "SlippedStreams$Link" ∈ q_big := q_mem 147 (by decide +kernel) rfl
theorem k_148 : Cond.instantiable "SlippedStreams$Link" 7 ∈ q_big := q_mem 148 (by decide +kernel) rfl
theorem k_149 : Cond.methodLink "SlippedStreams" 22 ⟨"SlippedStreams$Link", "<init>", "()V"⟩ ∈ q_big := q_mem 149 (by decide +kernel) rfl
theorem k_150 : Cond.instanceMethod ⟨"SlippedStreams$Link", "<init>", "()V"⟩ ∈ q_big := q_mem 150 (by decide +kernel) rfl
set_option maxRecDepth 100000 in
theorem k_151 : Cond.code ⟨"SlippedStreams$Link", "<init>", "()V"⟩ prog_4_method_1_code 1 none ∈ q_big := q_mem 151 (rfl) rfl
theorem k_152 : Cond.methodLink "SlippedStreams$Link" 3 ⟨"java/lang/Object", "<init>", "()V"⟩ ∈ q_big := q_mem 152 (by decide +kernel) rfl
theorem k_153 : Cond.classLink "SlippedStreams$Link" 15 "SlippedStreams$Fifo" ∈ q_big := q_mem 153 (by decide +kernel) rfl
theorem k_154 : Cond.instantiable "SlippedStreams$Fifo" 3 ∈ q_big := q_mem 154 (by decide +kernel) rfl
theorem k_155 : Cond.methodLink "SlippedStreams$Link" 17 ⟨"SlippedStreams$Fifo", "<init>", "(I)V"⟩ ∈ q_big := q_mem 155 (by decide +kernel) rfl
theorem k_156 : Cond.instanceMethod ⟨"SlippedStreams$Fifo", "<init>", "(I)V"⟩ ∈ q_big := q_mem 156 (by decide +kernel) rfl
set_option maxRecDepth 100000 in
theorem k_157 : Cond.code ⟨"SlippedStreams$Fifo", "<init>", "(I)V"⟩ prog_3_method_1_code 2 none ∈ q_big := q_mem 157 (rfl) rfl
theorem k_158 : Cond.methodLink "SlippedStreams$Fifo" 1 ⟨"java/lang/Object", "<init>", "()V"⟩ ∈ q_big := q_mem 158 (by decide +kernel) rfl
theorem k_173 : Cond.classLink "SlippedStreams$Link" 36 "SlippedStreams$StoreList" ∈ q_big := q_mem 173 (by decide +kernel) rfl
theorem k_174 : Cond.instantiable "SlippedStreams$StoreList" 6 ∈ q_big := q_mem 174 (by decide +kernel) rfl
theorem k_175 : Cond.methodLink "SlippedStreams$Link" 38 ⟨"SlippedStreams$StoreList", "<init>", "([I)V"⟩ ∈ q_big := q_mem 175 (by decide +kernel) rfl
theorem k_176 : Cond.instanceMethod ⟨"SlippedStreams$StoreList", "<init>", "([I)V"⟩ ∈ q_big := q_mem 176 (by decide +kernel) rfl
set_option maxRecDepth 100000 in
theorem k_177 : Cond.code ⟨"SlippedStreams$StoreList", "<init>", "([I)V"⟩ prog_8_method_1_code 2 none ∈ q_big := q_mem 177 (rfl) rfl
theorem k_178 : Cond.methodLink "SlippedStreams$StoreList" 3 ⟨"java/lang/Object", "<init>", "()V"⟩ ∈ q_big := q_mem 178 (by decide +kernel) rfl
theorem k_241 : Cond.classLink "SlippedStreams" 27 "SlippedStreams$AddressStream" ∈ q_big := q_mem 241 (by decide +kernel) rfl
theorem k_242 : Cond.instantiable "SlippedStreams$AddressStream" 7 ∈ q_big := q_mem 242 (by decide +kernel) rfl
theorem k_243 : Cond.methodLink "SlippedStreams" 29 ⟨"SlippedStreams$AddressStream", "<init>", "(LSlippedStreams$Program;LSlippedStreams$Link;)V"⟩ ∈ q_big := q_mem 243 (by decide +kernel) rfl
theorem k_244 : Cond.instanceMethod ⟨"SlippedStreams$AddressStream", "<init>", "(LSlippedStreams$Program;LSlippedStreams$Link;)V"⟩ ∈ q_big := q_mem 244 (by decide +kernel) rfl
set_option maxRecDepth 100000 in
theorem k_245 : Cond.code ⟨"SlippedStreams$AddressStream", "<init>", "(LSlippedStreams$Program;LSlippedStreams$Link;)V"⟩ prog_2_method_1_code 3 none ∈ q_big := q_mem 245 (rfl) rfl
theorem k_246 : Cond.methodLink "SlippedStreams$AddressStream" 9 ⟨"SlippedStreams$Stream", "<init>", "(LSlippedStreams$Program;LSlippedStreams$Link;[Z)V"⟩ ∈ q_big := q_mem 246 (by decide +kernel) rfl
theorem k_247 : Cond.instanceMethod ⟨"SlippedStreams$Stream", "<init>", "(LSlippedStreams$Program;LSlippedStreams$Link;[Z)V"⟩ ∈ q_big := q_mem 247 (by decide +kernel) rfl
set_option maxRecDepth 100000 in
theorem k_248 : Cond.code ⟨"SlippedStreams$Stream", "<init>", "(LSlippedStreams$Program;LSlippedStreams$Link;[Z)V"⟩ prog_9_method_1_code 4 none ∈ q_big := q_mem 248 (rfl) rfl
theorem k_249 : Cond.methodLink "SlippedStreams$Stream" 1 ⟨"SlippedStreams$Run", "<init>", "(LSlippedStreams$Program;)V"⟩ ∈ q_big := q_mem 249 (by decide +kernel) rfl
theorem k_250 : Cond.instanceMethod ⟨"SlippedStreams$Run", "<init>", "(LSlippedStreams$Program;)V"⟩ ∈ q_big := q_mem 250 (by decide +kernel) rfl
set_option maxRecDepth 100000 in
theorem k_251 : Cond.code ⟨"SlippedStreams$Run", "<init>", "(LSlippedStreams$Program;)V"⟩ prog_7_method_1_code 2 none ∈ q_big := q_mem 251 (rfl) rfl
theorem k_252 : Cond.methodLink "SlippedStreams$Run" 3 ⟨"java/lang/Object", "<init>", "()V"⟩ ∈ q_big := q_mem 252 (by decide +kernel) rfl
theorem k_254 : Cond.fieldLink "SlippedStreams$Stream" 7 "SlippedStreams$Stream" "link" "LSlippedStreams$Link;" ∈ q_big := q_mem 254 (by decide +kernel) rfl
theorem k_310 : Cond.classLink "SlippedStreams" 36 "SlippedStreams$ValueStream" ∈ q_big := q_mem 310 (by decide +kernel) rfl
theorem k_311 : Cond.instantiable "SlippedStreams$ValueStream" 7 ∈ q_big := q_mem 311 (by decide +kernel) rfl
theorem k_312 : Cond.methodLink "SlippedStreams" 38 ⟨"SlippedStreams$ValueStream", "<init>", "(LSlippedStreams$Program;LSlippedStreams$Link;)V"⟩ ∈ q_big := q_mem 312 (by decide +kernel) rfl
theorem k_313 : Cond.instanceMethod ⟨"SlippedStreams$ValueStream", "<init>", "(LSlippedStreams$Program;LSlippedStreams$Link;)V"⟩ ∈ q_big := q_mem 313 (by decide +kernel) rfl
set_option maxRecDepth 100000 in
theorem k_314 : Cond.code ⟨"SlippedStreams$ValueStream", "<init>", "(LSlippedStreams$Program;LSlippedStreams$Link;)V"⟩ prog_10_method_1_code 3 none ∈ q_big := q_mem 314 (rfl) rfl
theorem k_315 : Cond.methodLink "SlippedStreams$ValueStream" 9 ⟨"SlippedStreams$Stream", "<init>", "(LSlippedStreams$Program;LSlippedStreams$Link;[Z)V"⟩ ∈ q_big := q_mem 315 (by decide +kernel) rfl
theorem k_316 : Cond.classLink "SlippedStreams$ValueStream" 15 "SlippedStreams$Written" ∈ q_big := q_mem 316 (by decide +kernel) rfl
theorem k_317 : Cond.instantiable "SlippedStreams$Written" 2 ∈ q_big := q_mem 317 (by decide +kernel) rfl
theorem k_319 : Cond.instanceMethod ⟨"SlippedStreams$Written", "<init>", "()V"⟩ ∈ q_big := q_mem 319 (by decide +kernel) rfl
set_option maxRecDepth 100000 in
theorem k_320 : Cond.code ⟨"SlippedStreams$Written", "<init>", "()V"⟩ prog_11_method_1_code 1 none ∈ q_big := q_mem 320 (rfl) rfl
theorem k_321 : Cond.methodLink "SlippedStreams$Written" 3 ⟨"java/lang/Object", "<init>", "()V"⟩ ∈ q_big := q_mem 321 (by decide +kernel) rfl
theorem k_341 : Cond.classLink "SlippedStreams" 43 "SlippedStreams$PlainRun" ∈ q_big := q_mem 341 (by decide +kernel) rfl
theorem k_342 : Cond.instantiable "SlippedStreams$PlainRun" 5 ∈ q_big := q_mem 342 (by decide +kernel) rfl
theorem k_343 : Cond.methodLink "SlippedStreams" 45 ⟨"SlippedStreams$PlainRun", "<init>", "(LSlippedStreams$Program;)V"⟩ ∈ q_big := q_mem 343 (by decide +kernel) rfl
theorem k_344 : Cond.instanceMethod ⟨"SlippedStreams$PlainRun", "<init>", "(LSlippedStreams$Program;)V"⟩ ∈ q_big := q_mem 344 (by decide +kernel) rfl
set_option maxRecDepth 100000 in
theorem k_345 : Cond.code ⟨"SlippedStreams$PlainRun", "<init>", "(LSlippedStreams$Program;)V"⟩ prog_5_method_1_code 2 none ∈ q_big := q_mem 345 (rfl) rfl
theorem k_346 : Cond.methodLink "SlippedStreams$PlainRun" 3 ⟨"SlippedStreams$Run", "<init>", "(LSlippedStreams$Program;)V"⟩ ∈ q_big := q_mem 346 (by decide +kernel) rfl
theorem k_347 : Cond.classLink "SlippedStreams$PlainRun" 15 "SlippedStreams$Written" ∈ q_big := q_mem 347 (by decide +kernel) rfl
theorem k_812 : Cond.methodLink "SlippedStreamsModel" 1 ⟨"java/lang/Object", "<init>", "()V"⟩ ∈ q_big := q_mem 812 (by decide +kernel) rfl
theorem d_SlippedStreams_init_0 : decode b_SlippedStreams_init 0 = .ok (.aload_n 0, 1) := by decide +kernel
theorem d_SlippedStreams_init_1 : decode b_SlippedStreams_init 1 = .ok (.invokespecial 1, 3) := by decide +kernel
theorem d_SlippedStreams_init_4 : decode b_SlippedStreams_init 4 = .ok (.aload_n 0, 1) := by decide +kernel
theorem d_SlippedStreams_init_5 : decode b_SlippedStreams_init 5 = .ok (.new 7, 3) := by decide +kernel
theorem d_SlippedStreams_init_8 : decode b_SlippedStreams_init 8 = .ok (.dup, 1) := by decide +kernel
theorem d_SlippedStreams_init_9 : decode b_SlippedStreams_init 9 = .ok (.invokespecial 9, 3) := by decide +kernel
theorem d_SlippedStreams_init_12 : decode b_SlippedStreams_init 12 = .ok (.putfield 10, 3) := by decide +kernel
theorem d_SlippedStreams_init_15 : decode b_SlippedStreams_init 15 = .ok (.aload_n 0, 1) := by decide +kernel
theorem d_SlippedStreams_init_16 : decode b_SlippedStreams_init 16 = .ok (.bipush 32, 2) := by decide +kernel
theorem d_SlippedStreams_init_18 : decode b_SlippedStreams_init 18 = .ok (.newarray .int, 2) := by decide +kernel
theorem d_SlippedStreams_init_20 : decode b_SlippedStreams_init 20 = .ok (.putfield 16, 3) := by decide +kernel
theorem d_SlippedStreams_init_23 : decode b_SlippedStreams_init 23 = .ok (.aload_n 0, 1) := by decide +kernel
theorem d_SlippedStreams_init_24 : decode b_SlippedStreams_init 24 = .ok (.new 20, 3) := by decide +kernel
theorem d_SlippedStreams_init_27 : decode b_SlippedStreams_init 27 = .ok (.dup, 1) := by decide +kernel
theorem d_SlippedStreams_init_28 : decode b_SlippedStreams_init 28 = .ok (.invokespecial 22, 3) := by decide +kernel
theorem d_SlippedStreams_init_31 : decode b_SlippedStreams_init 31 = .ok (.putfield 23, 3) := by decide +kernel
theorem d_SlippedStreams_init_34 : decode b_SlippedStreams_init 34 = .ok (.aload_n 0, 1) := by decide +kernel
theorem d_SlippedStreams_init_35 : decode b_SlippedStreams_init 35 = .ok (.new 27, 3) := by decide +kernel
theorem d_SlippedStreams_init_38 : decode b_SlippedStreams_init 38 = .ok (.dup, 1) := by decide +kernel
theorem d_SlippedStreams_init_39 : decode b_SlippedStreams_init 39 = .ok (.aload_n 0, 1) := by decide +kernel
theorem d_SlippedStreams_init_40 : decode b_SlippedStreams_init 40 = .ok (.getfield 10, 3) := by decide +kernel
theorem d_SlippedStreams_init_43 : decode b_SlippedStreams_init 43 = .ok (.aload_n 0, 1) := by decide +kernel
theorem d_SlippedStreams_init_44 : decode b_SlippedStreams_init 44 = .ok (.getfield 23, 3) := by decide +kernel
theorem d_SlippedStreams_init_47 : decode b_SlippedStreams_init 47 = .ok (.invokespecial 29, 3) := by decide +kernel
theorem d_SlippedStreams_init_50 : decode b_SlippedStreams_init 50 = .ok (.putfield 32, 3) := by decide +kernel
theorem d_SlippedStreams_init_53 : decode b_SlippedStreams_init 53 = .ok (.aload_n 0, 1) := by decide +kernel
theorem d_SlippedStreams_init_54 : decode b_SlippedStreams_init 54 = .ok (.new 36, 3) := by decide +kernel
theorem d_SlippedStreams_init_57 : decode b_SlippedStreams_init 57 = .ok (.dup, 1) := by decide +kernel
theorem d_SlippedStreams_init_58 : decode b_SlippedStreams_init 58 = .ok (.aload_n 0, 1) := by decide +kernel
theorem d_SlippedStreams_init_59 : decode b_SlippedStreams_init 59 = .ok (.getfield 10, 3) := by decide +kernel
theorem d_SlippedStreams_init_62 : decode b_SlippedStreams_init 62 = .ok (.aload_n 0, 1) := by decide +kernel
theorem d_SlippedStreams_init_63 : decode b_SlippedStreams_init 63 = .ok (.getfield 23, 3) := by decide +kernel
theorem d_SlippedStreams_init_66 : decode b_SlippedStreams_init 66 = .ok (.invokespecial 38, 3) := by decide +kernel
theorem d_SlippedStreams_init_69 : decode b_SlippedStreams_init 69 = .ok (.putfield 39, 3) := by decide +kernel
theorem d_SlippedStreams_init_72 : decode b_SlippedStreams_init 72 = .ok (.aload_n 0, 1) := by decide +kernel
theorem d_SlippedStreams_init_73 : decode b_SlippedStreams_init 73 = .ok (.new 43, 3) := by decide +kernel
theorem d_SlippedStreams_init_76 : decode b_SlippedStreams_init 76 = .ok (.dup, 1) := by decide +kernel
theorem d_SlippedStreams_init_77 : decode b_SlippedStreams_init 77 = .ok (.aload_n 0, 1) := by decide +kernel
theorem d_SlippedStreams_init_78 : decode b_SlippedStreams_init 78 = .ok (.getfield 10, 3) := by decide +kernel
theorem d_SlippedStreams_init_81 : decode b_SlippedStreams_init 81 = .ok (.invokespecial 45, 3) := by decide +kernel
theorem d_SlippedStreams_init_84 : decode b_SlippedStreams_init 84 = .ok (.putfield 48, 3) := by decide +kernel
theorem d_SlippedStreams_init_87 : decode b_SlippedStreams_init 87 = .ok (.return_, 1) := by decide +kernel
theorem d_Program_init_0 : decode b_Program_init 0 = .ok (.aload_n 0, 1) := by decide +kernel
theorem d_Program_init_1 : decode b_Program_init 1 = .ok (.invokespecial 3, 3) := by decide +kernel
theorem d_Program_init_4 : decode b_Program_init 4 = .ok (.aload_n 0, 1) := by decide +kernel
theorem d_Program_init_5 : decode b_Program_init 5 = .ok (.bipush 24, 2) := by decide +kernel
theorem d_Program_init_7 : decode b_Program_init 7 = .ok (.newarray .int, 2) := by decide +kernel
theorem d_Program_init_9 : decode b_Program_init 9 = .ok (.putfield 9, 3) := by decide +kernel
theorem d_Program_init_12 : decode b_Program_init 12 = .ok (.aload_n 0, 1) := by decide +kernel
theorem d_Program_init_13 : decode b_Program_init 13 = .ok (.bipush 24, 2) := by decide +kernel
theorem d_Program_init_15 : decode b_Program_init 15 = .ok (.newarray .int, 2) := by decide +kernel
theorem d_Program_init_17 : decode b_Program_init 17 = .ok (.putfield 15, 3) := by decide +kernel
theorem d_Program_init_20 : decode b_Program_init 20 = .ok (.aload_n 0, 1) := by decide +kernel
theorem d_Program_init_21 : decode b_Program_init 21 = .ok (.bipush 24, 2) := by decide +kernel
theorem d_Program_init_23 : decode b_Program_init 23 = .ok (.newarray .int, 2) := by decide +kernel
theorem d_Program_init_25 : decode b_Program_init 25 = .ok (.putfield 18, 3) := by decide +kernel
theorem d_Program_init_28 : decode b_Program_init 28 = .ok (.aload_n 0, 1) := by decide +kernel
theorem d_Program_init_29 : decode b_Program_init 29 = .ok (.bipush 24, 2) := by decide +kernel
theorem d_Program_init_31 : decode b_Program_init 31 = .ok (.newarray .int, 2) := by decide +kernel
theorem d_Program_init_33 : decode b_Program_init 33 = .ok (.putfield 21, 3) := by decide +kernel
theorem d_Program_init_36 : decode b_Program_init 36 = .ok (.aload_n 0, 1) := by decide +kernel
theorem d_Program_init_37 : decode b_Program_init 37 = .ok (.bipush 24, 2) := by decide +kernel
theorem d_Program_init_39 : decode b_Program_init 39 = .ok (.newarray .int, 2) := by decide +kernel
theorem d_Program_init_41 : decode b_Program_init 41 = .ok (.putfield 24, 3) := by decide +kernel
theorem d_Program_init_44 : decode b_Program_init 44 = .ok (.aload_n 0, 1) := by decide +kernel
theorem d_Program_init_45 : decode b_Program_init 45 = .ok (.bipush 24, 2) := by decide +kernel
theorem d_Program_init_47 : decode b_Program_init 47 = .ok (.newarray .int, 2) := by decide +kernel
theorem d_Program_init_49 : decode b_Program_init 49 = .ok (.putfield 27, 3) := by decide +kernel
theorem d_Program_init_52 : decode b_Program_init 52 = .ok (.aload_n 0, 1) := by decide +kernel
theorem d_Program_init_53 : decode b_Program_init 53 = .ok (.bipush 24, 2) := by decide +kernel
theorem d_Program_init_55 : decode b_Program_init 55 = .ok (.newarray .int, 2) := by decide +kernel
theorem d_Program_init_57 : decode b_Program_init 57 = .ok (.putfield 30, 3) := by decide +kernel
theorem d_Program_init_60 : decode b_Program_init 60 = .ok (.aload_n 0, 1) := by decide +kernel
theorem d_Program_init_61 : decode b_Program_init 61 = .ok (.bipush 24, 2) := by decide +kernel
theorem d_Program_init_63 : decode b_Program_init 63 = .ok (.newarray .int, 2) := by decide +kernel
theorem d_Program_init_65 : decode b_Program_init 65 = .ok (.putfield 33, 3) := by decide +kernel
theorem d_Program_init_68 : decode b_Program_init 68 = .ok (.aload_n 0, 1) := by decide +kernel
theorem d_Program_init_69 : decode b_Program_init 69 = .ok (.bipush 24, 2) := by decide +kernel
theorem d_Program_init_71 : decode b_Program_init 71 = .ok (.newarray .boolean, 2) := by decide +kernel
theorem d_Program_init_73 : decode b_Program_init 73 = .ok (.putfield 36, 3) := by decide +kernel
theorem d_Program_init_76 : decode b_Program_init 76 = .ok (.aload_n 0, 1) := by decide +kernel
theorem d_Program_init_77 : decode b_Program_init 77 = .ok (.bipush 24, 2) := by decide +kernel
theorem d_Program_init_79 : decode b_Program_init 79 = .ok (.newarray .boolean, 2) := by decide +kernel
theorem d_Program_init_81 : decode b_Program_init 81 = .ok (.putfield 40, 3) := by decide +kernel
theorem d_Program_init_84 : decode b_Program_init 84 = .ok (.return_, 1) := by decide +kernel
theorem d_Link_init_0 : decode b_Link_init 0 = .ok (.aload_n 0, 1) := by decide +kernel
theorem d_Link_init_1 : decode b_Link_init 1 = .ok (.invokespecial 3, 3) := by decide +kernel
theorem d_Link_init_4 : decode b_Link_init 4 = .ok (.aload_n 0, 1) := by decide +kernel
theorem d_Link_init_5 : decode b_Link_init 5 = .ok (.bipush 32, 2) := by decide +kernel
theorem d_Link_init_7 : decode b_Link_init 7 = .ok (.newarray .int, 2) := by decide +kernel
theorem d_Link_init_9 : decode b_Link_init 9 = .ok (.putfield 9, 3) := by decide +kernel
theorem d_Link_init_12 : decode b_Link_init 12 = .ok (.aload_n 0, 1) := by decide +kernel
theorem d_Link_init_13 : decode b_Link_init 13 = .ok (.new 15, 3) := by decide +kernel
theorem d_Link_init_16 : decode b_Link_init 16 = .ok (.dup, 1) := by decide +kernel
theorem d_Link_init_17 : decode b_Link_init 17 = .ok (.iconst 4, 1) := by decide +kernel
theorem d_Link_init_18 : decode b_Link_init 18 = .ok (.invokespecial 17, 3) := by decide +kernel
theorem d_Link_init_21 : decode b_Link_init 21 = .ok (.putfield 20, 3) := by decide +kernel
theorem d_Link_init_24 : decode b_Link_init 24 = .ok (.aload_n 0, 1) := by decide +kernel
theorem d_Link_init_25 : decode b_Link_init 25 = .ok (.new 15, 3) := by decide +kernel
theorem d_Link_init_28 : decode b_Link_init 28 = .ok (.dup, 1) := by decide +kernel
theorem d_Link_init_29 : decode b_Link_init 29 = .ok (.iconst 4, 1) := by decide +kernel
theorem d_Link_init_30 : decode b_Link_init 30 = .ok (.invokespecial 17, 3) := by decide +kernel
theorem d_Link_init_33 : decode b_Link_init 33 = .ok (.putfield 24, 3) := by decide +kernel
theorem d_Link_init_36 : decode b_Link_init 36 = .ok (.aload_n 0, 1) := by decide +kernel
theorem d_Link_init_37 : decode b_Link_init 37 = .ok (.new 15, 3) := by decide +kernel
theorem d_Link_init_40 : decode b_Link_init 40 = .ok (.dup, 1) := by decide +kernel
theorem d_Link_init_41 : decode b_Link_init 41 = .ok (.iconst 4, 1) := by decide +kernel
theorem d_Link_init_42 : decode b_Link_init 42 = .ok (.invokespecial 17, 3) := by decide +kernel
theorem d_Link_init_45 : decode b_Link_init 45 = .ok (.putfield 27, 3) := by decide +kernel
theorem d_Link_init_48 : decode b_Link_init 48 = .ok (.aload_n 0, 1) := by decide +kernel
theorem d_Link_init_49 : decode b_Link_init 49 = .ok (.new 15, 3) := by decide +kernel
theorem d_Link_init_52 : decode b_Link_init 52 = .ok (.dup, 1) := by decide +kernel
theorem d_Link_init_53 : decode b_Link_init 53 = .ok (.iconst 4, 1) := by decide +kernel
theorem d_Link_init_54 : decode b_Link_init 54 = .ok (.invokespecial 17, 3) := by decide +kernel
theorem d_Link_init_57 : decode b_Link_init 57 = .ok (.putfield 30, 3) := by decide +kernel
theorem d_Link_init_60 : decode b_Link_init 60 = .ok (.aload_n 0, 1) := by decide +kernel
theorem d_Link_init_61 : decode b_Link_init 61 = .ok (.new 15, 3) := by decide +kernel
theorem d_Link_init_64 : decode b_Link_init 64 = .ok (.dup, 1) := by decide +kernel
theorem d_Link_init_65 : decode b_Link_init 65 = .ok (.bipush 6, 2) := by decide +kernel
theorem d_Link_init_67 : decode b_Link_init 67 = .ok (.invokespecial 17, 3) := by decide +kernel
theorem d_Link_init_70 : decode b_Link_init 70 = .ok (.putfield 33, 3) := by decide +kernel
theorem d_Link_init_73 : decode b_Link_init 73 = .ok (.aload_n 0, 1) := by decide +kernel
theorem d_Link_init_74 : decode b_Link_init 74 = .ok (.new 36, 3) := by decide +kernel
theorem d_Link_init_77 : decode b_Link_init 77 = .ok (.dup, 1) := by decide +kernel
theorem d_Link_init_78 : decode b_Link_init 78 = .ok (.aload_n 0, 1) := by decide +kernel
theorem d_Link_init_79 : decode b_Link_init 79 = .ok (.getfield 9, 3) := by decide +kernel
theorem d_Link_init_82 : decode b_Link_init 82 = .ok (.invokespecial 38, 3) := by decide +kernel
theorem d_Link_init_85 : decode b_Link_init 85 = .ok (.putfield 41, 3) := by decide +kernel
theorem d_Link_init_88 : decode b_Link_init 88 = .ok (.return_, 1) := by decide +kernel
theorem d_Fifo_init_0 : decode b_Fifo_init 0 = .ok (.aload_n 0, 1) := by decide +kernel
theorem d_Fifo_init_1 : decode b_Fifo_init 1 = .ok (.invokespecial 1, 3) := by decide +kernel
theorem d_Fifo_init_4 : decode b_Fifo_init 4 = .ok (.aload_n 0, 1) := by decide +kernel
theorem d_Fifo_init_5 : decode b_Fifo_init 5 = .ok (.iload_n 1, 1) := by decide +kernel
theorem d_Fifo_init_6 : decode b_Fifo_init 6 = .ok (.newarray .int, 2) := by decide +kernel
theorem d_Fifo_init_8 : decode b_Fifo_init 8 = .ok (.putfield 7, 3) := by decide +kernel
theorem d_Fifo_init_11 : decode b_Fifo_init 11 = .ok (.return_, 1) := by decide +kernel
theorem d_StoreList_init_0 : decode b_StoreList_init 0 = .ok (.aload_n 0, 1) := by decide +kernel
theorem d_StoreList_init_1 : decode b_StoreList_init 1 = .ok (.invokespecial 3, 3) := by decide +kernel
theorem d_StoreList_init_4 : decode b_StoreList_init 4 = .ok (.aload_n 0, 1) := by decide +kernel
theorem d_StoreList_init_5 : decode b_StoreList_init 5 = .ok (.bipush 6, 2) := by decide +kernel
theorem d_StoreList_init_7 : decode b_StoreList_init 7 = .ok (.newarray .int, 2) := by decide +kernel
theorem d_StoreList_init_9 : decode b_StoreList_init 9 = .ok (.putfield 9, 3) := by decide +kernel
theorem d_StoreList_init_12 : decode b_StoreList_init 12 = .ok (.aload_n 0, 1) := by decide +kernel
theorem d_StoreList_init_13 : decode b_StoreList_init 13 = .ok (.bipush 6, 2) := by decide +kernel
theorem d_StoreList_init_15 : decode b_StoreList_init 15 = .ok (.newarray .int, 2) := by decide +kernel
theorem d_StoreList_init_17 : decode b_StoreList_init 17 = .ok (.putfield 15, 3) := by decide +kernel
theorem d_StoreList_init_20 : decode b_StoreList_init 20 = .ok (.aload_n 0, 1) := by decide +kernel
theorem d_StoreList_init_21 : decode b_StoreList_init 21 = .ok (.bipush 6, 2) := by decide +kernel
theorem d_StoreList_init_23 : decode b_StoreList_init 23 = .ok (.newarray .boolean, 2) := by decide +kernel
theorem d_StoreList_init_25 : decode b_StoreList_init 25 = .ok (.putfield 18, 3) := by decide +kernel
theorem d_StoreList_init_28 : decode b_StoreList_init 28 = .ok (.aload_n 0, 1) := by decide +kernel
theorem d_StoreList_init_29 : decode b_StoreList_init 29 = .ok (.aload_n 1, 1) := by decide +kernel
theorem d_StoreList_init_30 : decode b_StoreList_init 30 = .ok (.putfield 22, 3) := by decide +kernel
theorem d_StoreList_init_33 : decode b_StoreList_init 33 = .ok (.return_, 1) := by decide +kernel
theorem d_AddressStream_init_0 : decode b_AddressStream_init 0 = .ok (.aload_n 0, 1) := by decide +kernel
theorem d_AddressStream_init_1 : decode b_AddressStream_init 1 = .ok (.aload_n 1, 1) := by decide +kernel
theorem d_AddressStream_init_2 : decode b_AddressStream_init 2 = .ok (.aload_n 2, 1) := by decide +kernel
theorem d_AddressStream_init_3 : decode b_AddressStream_init 3 = .ok (.aload_n 1, 1) := by decide +kernel
theorem d_AddressStream_init_4 : decode b_AddressStream_init 4 = .ok (.getfield 3, 3) := by decide +kernel
theorem d_AddressStream_init_7 : decode b_AddressStream_init 7 = .ok (.invokespecial 9, 3) := by decide +kernel
theorem d_AddressStream_init_10 : decode b_AddressStream_init 10 = .ok (.return_, 1) := by decide +kernel
theorem d_Stream_init_0 : decode b_Stream_init 0 = .ok (.aload_n 0, 1) := by decide +kernel
theorem d_Stream_init_1 : decode b_Stream_init 1 = .ok (.aload_n 1, 1) := by decide +kernel
theorem d_Stream_init_2 : decode b_Stream_init 2 = .ok (.invokespecial 1, 3) := by decide +kernel
theorem d_Stream_init_5 : decode b_Stream_init 5 = .ok (.aload_n 0, 1) := by decide +kernel
theorem d_Stream_init_6 : decode b_Stream_init 6 = .ok (.aload_n 2, 1) := by decide +kernel
theorem d_Stream_init_7 : decode b_Stream_init 7 = .ok (.putfield 7, 3) := by decide +kernel
theorem d_Stream_init_10 : decode b_Stream_init 10 = .ok (.aload_n 0, 1) := by decide +kernel
theorem d_Stream_init_11 : decode b_Stream_init 11 = .ok (.aload_n 3, 1) := by decide +kernel
theorem d_Stream_init_12 : decode b_Stream_init 12 = .ok (.putfield 13, 3) := by decide +kernel
theorem d_Stream_init_15 : decode b_Stream_init 15 = .ok (.return_, 1) := by decide +kernel
theorem d_Run_init_0 : decode b_Run_init 0 = .ok (.aload_n 0, 1) := by decide +kernel
theorem d_Run_init_1 : decode b_Run_init 1 = .ok (.invokespecial 3, 3) := by decide +kernel
theorem d_Run_init_4 : decode b_Run_init 4 = .ok (.aload_n 0, 1) := by decide +kernel
theorem d_Run_init_5 : decode b_Run_init 5 = .ok (.bipush 8, 2) := by decide +kernel
theorem d_Run_init_7 : decode b_Run_init 7 = .ok (.newarray .int, 2) := by decide +kernel
theorem d_Run_init_9 : decode b_Run_init 9 = .ok (.putfield 9, 3) := by decide +kernel
theorem d_Run_init_12 : decode b_Run_init 12 = .ok (.aload_n 0, 1) := by decide +kernel
theorem d_Run_init_13 : decode b_Run_init 13 = .ok (.aload_n 1, 1) := by decide +kernel
theorem d_Run_init_14 : decode b_Run_init 14 = .ok (.putfield 15, 3) := by decide +kernel
theorem d_Run_init_17 : decode b_Run_init 17 = .ok (.return_, 1) := by decide +kernel
theorem d_ValueStream_init_0 : decode b_ValueStream_init 0 = .ok (.aload_n 0, 1) := by decide +kernel
theorem d_ValueStream_init_1 : decode b_ValueStream_init 1 = .ok (.aload_n 1, 1) := by decide +kernel
theorem d_ValueStream_init_2 : decode b_ValueStream_init 2 = .ok (.aload_n 2, 1) := by decide +kernel
theorem d_ValueStream_init_3 : decode b_ValueStream_init 3 = .ok (.aload_n 1, 1) := by decide +kernel
theorem d_ValueStream_init_4 : decode b_ValueStream_init 4 = .ok (.getfield 3, 3) := by decide +kernel
theorem d_ValueStream_init_7 : decode b_ValueStream_init 7 = .ok (.invokespecial 9, 3) := by decide +kernel
theorem d_ValueStream_init_10 : decode b_ValueStream_init 10 = .ok (.aload_n 0, 1) := by decide +kernel
theorem d_ValueStream_init_11 : decode b_ValueStream_init 11 = .ok (.new 15, 3) := by decide +kernel
theorem d_ValueStream_init_14 : decode b_ValueStream_init 14 = .ok (.dup, 1) := by decide +kernel
theorem d_ValueStream_init_15 : decode b_ValueStream_init 15 = .ok (.invokespecial 17, 3) := by decide +kernel
theorem d_ValueStream_init_18 : decode b_ValueStream_init 18 = .ok (.putfield 20, 3) := by decide +kernel
theorem d_ValueStream_init_21 : decode b_ValueStream_init 21 = .ok (.return_, 1) := by decide +kernel
theorem d_Written_init_0 : decode b_Written_init 0 = .ok (.aload_n 0, 1) := by decide +kernel
theorem d_Written_init_1 : decode b_Written_init 1 = .ok (.invokespecial 3, 3) := by decide +kernel
theorem d_Written_init_4 : decode b_Written_init 4 = .ok (.aload_n 0, 1) := by decide +kernel
theorem d_Written_init_5 : decode b_Written_init 5 = .ok (.bipush 64, 2) := by decide +kernel
theorem d_Written_init_7 : decode b_Written_init 7 = .ok (.newarray .int, 2) := by decide +kernel
theorem d_Written_init_9 : decode b_Written_init 9 = .ok (.putfield 9, 3) := by decide +kernel
theorem d_Written_init_12 : decode b_Written_init 12 = .ok (.return_, 1) := by decide +kernel
theorem d_PlainRun_init_0 : decode b_PlainRun_init 0 = .ok (.aload_n 0, 1) := by decide +kernel
theorem d_PlainRun_init_1 : decode b_PlainRun_init 1 = .ok (.aload_n 1, 1) := by decide +kernel
theorem d_PlainRun_init_2 : decode b_PlainRun_init 2 = .ok (.invokespecial 3, 3) := by decide +kernel
theorem d_PlainRun_init_5 : decode b_PlainRun_init 5 = .ok (.aload_n 0, 1) := by decide +kernel
theorem d_PlainRun_init_6 : decode b_PlainRun_init 6 = .ok (.bipush 32, 2) := by decide +kernel
theorem d_PlainRun_init_8 : decode b_PlainRun_init 8 = .ok (.newarray .int, 2) := by decide +kernel
theorem d_PlainRun_init_10 : decode b_PlainRun_init 10 = .ok (.putfield 9, 3) := by decide +kernel
theorem d_PlainRun_init_13 : decode b_PlainRun_init 13 = .ok (.aload_n 0, 1) := by decide +kernel
theorem d_PlainRun_init_14 : decode b_PlainRun_init 14 = .ok (.new 15, 3) := by decide +kernel
theorem d_PlainRun_init_17 : decode b_PlainRun_init 17 = .ok (.dup, 1) := by decide +kernel
theorem d_PlainRun_init_18 : decode b_PlainRun_init 18 = .ok (.invokespecial 17, 3) := by decide +kernel
theorem d_PlainRun_init_21 : decode b_PlainRun_init 21 = .ok (.putfield 20, 3) := by decide +kernel
theorem d_PlainRun_init_24 : decode b_PlainRun_init 24 = .ok (.return_, 1) := by decide +kernel
theorem d_SlippedStreamsModel_init_0 : decode b_SlippedStreamsModel_init 0 = .ok (.aload_n 0, 1) := by decide +kernel
theorem d_SlippedStreamsModel_init_1 : decode b_SlippedStreamsModel_init 1 = .ok (.invokespecial 1, 3) := by decide +kernel
theorem d_SlippedStreamsModel_init_4 : decode b_SlippedStreamsModel_init 4 = .ok (.aload_n 0, 1) := by decide +kernel
theorem d_SlippedStreamsModel_init_5 : decode b_SlippedStreamsModel_init 5 = .ok (.bipush 24, 2) := by decide +kernel
theorem d_SlippedStreamsModel_init_7 : decode b_SlippedStreamsModel_init 7 = .ok (.newarray .int, 2) := by decide +kernel
theorem d_SlippedStreamsModel_init_9 : decode b_SlippedStreamsModel_init 9 = .ok (.putfield 7, 3) := by decide +kernel
theorem d_SlippedStreamsModel_init_12 : decode b_SlippedStreamsModel_init 12 = .ok (.aload_n 0, 1) := by decide +kernel
theorem d_SlippedStreamsModel_init_13 : decode b_SlippedStreamsModel_init 13 = .ok (.bipush 24, 2) := by decide +kernel
theorem d_SlippedStreamsModel_init_15 : decode b_SlippedStreamsModel_init 15 = .ok (.newarray .int, 2) := by decide +kernel
theorem d_SlippedStreamsModel_init_17 : decode b_SlippedStreamsModel_init 17 = .ok (.putfield 13, 3) := by decide +kernel
theorem d_SlippedStreamsModel_init_20 : decode b_SlippedStreamsModel_init 20 = .ok (.aload_n 0, 1) := by decide +kernel
theorem d_SlippedStreamsModel_init_21 : decode b_SlippedStreamsModel_init 21 = .ok (.bipush 24, 2) := by decide +kernel
theorem d_SlippedStreamsModel_init_23 : decode b_SlippedStreamsModel_init 23 = .ok (.newarray .int, 2) := by decide +kernel
theorem d_SlippedStreamsModel_init_25 : decode b_SlippedStreamsModel_init 25 = .ok (.putfield 16, 3) := by decide +kernel
theorem d_SlippedStreamsModel_init_28 : decode b_SlippedStreamsModel_init 28 = .ok (.aload_n 0, 1) := by decide +kernel
theorem d_SlippedStreamsModel_init_29 : decode b_SlippedStreamsModel_init 29 = .ok (.bipush 24, 2) := by decide +kernel
theorem d_SlippedStreamsModel_init_31 : decode b_SlippedStreamsModel_init 31 = .ok (.newarray .int, 2) := by decide +kernel
theorem d_SlippedStreamsModel_init_33 : decode b_SlippedStreamsModel_init 33 = .ok (.putfield 19, 3) := by decide +kernel
theorem d_SlippedStreamsModel_init_36 : decode b_SlippedStreamsModel_init 36 = .ok (.aload_n 0, 1) := by decide +kernel
theorem d_SlippedStreamsModel_init_37 : decode b_SlippedStreamsModel_init 37 = .ok (.bipush 8, 2) := by decide +kernel
theorem d_SlippedStreamsModel_init_39 : decode b_SlippedStreamsModel_init 39 = .ok (.newarray .boolean, 2) := by decide +kernel
theorem d_SlippedStreamsModel_init_41 : decode b_SlippedStreamsModel_init 41 = .ok (.putfield 22, 3) := by decide +kernel
theorem d_SlippedStreamsModel_init_44 : decode b_SlippedStreamsModel_init 44 = .ok (.aload_n 0, 1) := by decide +kernel
theorem d_SlippedStreamsModel_init_45 : decode b_SlippedStreamsModel_init 45 = .ok (.bipush 16, 2) := by decide +kernel
theorem d_SlippedStreamsModel_init_47 : decode b_SlippedStreamsModel_init 47 = .ok (.newarray .int, 2) := by decide +kernel
theorem d_SlippedStreamsModel_init_49 : decode b_SlippedStreamsModel_init 49 = .ok (.putfield 26, 3) := by decide +kernel
theorem d_SlippedStreamsModel_init_52 : decode b_SlippedStreamsModel_init 52 = .ok (.aload_n 0, 1) := by decide +kernel
theorem d_SlippedStreamsModel_init_53 : decode b_SlippedStreamsModel_init 53 = .ok (.iconst 2, 1) := by decide +kernel
theorem d_SlippedStreamsModel_init_54 : decode b_SlippedStreamsModel_init 54 = .ok (.newarray .int, 2) := by decide +kernel
theorem d_SlippedStreamsModel_init_56 : decode b_SlippedStreamsModel_init 56 = .ok (.putfield 29, 3) := by decide +kernel
theorem d_SlippedStreamsModel_init_59 : decode b_SlippedStreamsModel_init 59 = .ok (.aload_n 0, 1) := by decide +kernel
theorem d_SlippedStreamsModel_init_60 : decode b_SlippedStreamsModel_init 60 = .ok (.iconst 2, 1) := by decide +kernel
theorem d_SlippedStreamsModel_init_61 : decode b_SlippedStreamsModel_init 61 = .ok (.newarray .int, 2) := by decide +kernel
theorem d_SlippedStreamsModel_init_63 : decode b_SlippedStreamsModel_init 63 = .ok (.putfield 32, 3) := by decide +kernel
theorem d_SlippedStreamsModel_init_66 : decode b_SlippedStreamsModel_init 66 = .ok (.aload_n 0, 1) := by decide +kernel
theorem d_SlippedStreamsModel_init_67 : decode b_SlippedStreamsModel_init 67 = .ok (.bipush 32, 2) := by decide +kernel
theorem d_SlippedStreamsModel_init_69 : decode b_SlippedStreamsModel_init 69 = .ok (.newarray .int, 2) := by decide +kernel
theorem d_SlippedStreamsModel_init_71 : decode b_SlippedStreamsModel_init 71 = .ok (.putfield 35, 3) := by decide +kernel
theorem d_SlippedStreamsModel_init_74 : decode b_SlippedStreamsModel_init 74 = .ok (.aload_n 0, 1) := by decide +kernel
theorem d_SlippedStreamsModel_init_75 : decode b_SlippedStreamsModel_init 75 = .ok (.bipush 30, 2) := by decide +kernel
theorem d_SlippedStreamsModel_init_77 : decode b_SlippedStreamsModel_init 77 = .ok (.newarray .int, 2) := by decide +kernel
theorem d_SlippedStreamsModel_init_79 : decode b_SlippedStreamsModel_init 79 = .ok (.putfield 38, 3) := by decide +kernel
theorem d_SlippedStreamsModel_init_82 : decode b_SlippedStreamsModel_init 82 = .ok (.aload_n 0, 1) := by decide +kernel
theorem d_SlippedStreamsModel_init_83 : decode b_SlippedStreamsModel_init 83 = .ok (.iconst 5, 1) := by decide +kernel
theorem d_SlippedStreamsModel_init_84 : decode b_SlippedStreamsModel_init 84 = .ok (.newarray .int, 2) := by decide +kernel
theorem d_SlippedStreamsModel_init_86 : decode b_SlippedStreamsModel_init 86 = .ok (.putfield 41, 3) := by decide +kernel
theorem d_SlippedStreamsModel_init_89 : decode b_SlippedStreamsModel_init 89 = .ok (.aload_n 0, 1) := by decide +kernel
theorem d_SlippedStreamsModel_init_90 : decode b_SlippedStreamsModel_init 90 = .ok (.bipush 6, 2) := by decide +kernel
theorem d_SlippedStreamsModel_init_92 : decode b_SlippedStreamsModel_init 92 = .ok (.newarray .int, 2) := by decide +kernel
theorem d_SlippedStreamsModel_init_94 : decode b_SlippedStreamsModel_init 94 = .ok (.putfield 44, 3) := by decide +kernel
theorem d_SlippedStreamsModel_init_97 : decode b_SlippedStreamsModel_init 97 = .ok (.aload_n 0, 1) := by decide +kernel
theorem d_SlippedStreamsModel_init_98 : decode b_SlippedStreamsModel_init 98 = .ok (.bipush 6, 2) := by decide +kernel
theorem d_SlippedStreamsModel_init_100 : decode b_SlippedStreamsModel_init 100 = .ok (.newarray .int, 2) := by decide +kernel
theorem d_SlippedStreamsModel_init_102 : decode b_SlippedStreamsModel_init 102 = .ok (.putfield 47, 3) := by decide +kernel
theorem d_SlippedStreamsModel_init_105 : decode b_SlippedStreamsModel_init 105 = .ok (.aload_n 0, 1) := by decide +kernel
theorem d_SlippedStreamsModel_init_106 : decode b_SlippedStreamsModel_init 106 = .ok (.bipush 6, 2) := by decide +kernel
theorem d_SlippedStreamsModel_init_108 : decode b_SlippedStreamsModel_init 108 = .ok (.newarray .boolean, 2) := by decide +kernel
theorem d_SlippedStreamsModel_init_110 : decode b_SlippedStreamsModel_init 110 = .ok (.putfield 50, 3) := by decide +kernel
theorem d_SlippedStreamsModel_init_113 : decode b_SlippedStreamsModel_init 113 = .ok (.aload_n 0, 1) := by decide +kernel
theorem d_SlippedStreamsModel_init_114 : decode b_SlippedStreamsModel_init 114 = .ok (.bipush 8, 2) := by decide +kernel
theorem d_SlippedStreamsModel_init_116 : decode b_SlippedStreamsModel_init 116 = .ok (.newarray .int, 2) := by decide +kernel
theorem d_SlippedStreamsModel_init_118 : decode b_SlippedStreamsModel_init 118 = .ok (.putfield 53, 3) := by decide +kernel
theorem d_SlippedStreamsModel_init_121 : decode b_SlippedStreamsModel_init 121 = .ok (.aload_n 0, 1) := by decide +kernel
theorem d_SlippedStreamsModel_init_122 : decode b_SlippedStreamsModel_init 122 = .ok (.bipush 32, 2) := by decide +kernel
theorem d_SlippedStreamsModel_init_124 : decode b_SlippedStreamsModel_init 124 = .ok (.newarray .int, 2) := by decide +kernel
theorem d_SlippedStreamsModel_init_126 : decode b_SlippedStreamsModel_init 126 = .ok (.putfield 56, 3) := by decide +kernel
theorem d_SlippedStreamsModel_init_129 : decode b_SlippedStreamsModel_init 129 = .ok (.aload_n 0, 1) := by decide +kernel
theorem d_SlippedStreamsModel_init_130 : decode b_SlippedStreamsModel_init 130 = .ok (.sipush 128, 3) := by decide +kernel
theorem d_SlippedStreamsModel_init_133 : decode b_SlippedStreamsModel_init 133 = .ok (.newarray .int, 2) := by decide +kernel
theorem d_SlippedStreamsModel_init_135 : decode b_SlippedStreamsModel_init 135 = .ok (.putfield 59, 3) := by decide +kernel
theorem d_SlippedStreamsModel_init_138 : decode b_SlippedStreamsModel_init 138 = .ok (.return_, 1) := by decide +kernel
