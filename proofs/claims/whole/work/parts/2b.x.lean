def x_Program_firstRead_1_34 (z0 : ST) (y1 : Int32) : OR := gin y1 24 (some (z0.2 1 y1.toNatClampNeg, z0))
def x_Program_firstRead_1 (z0 : ST) (x1 : Int32) : OR := obn (x_Program_isArithmetic_1 z0 x1) (fun r1 z1 => if r1 = 0 then (obn (x_Program_isBranch_1 z1 x1) (fun r2 z2 => if r2 = 0 then (gin x1 24 (if (z2.2 0 x1.toNatClampNeg) = 8 then (x_Program_firstRead_1_34 z2 x1) else (some ((-1), z2)))) else (x_Program_firstRead_1_34 z2 x1))) else (gin x1 24 (some (z1.2 2 x1.toNatClampNeg, z1))))
set_option maxRecDepth 100000 in
set_option maxHeartbeats 4000000 in
theorem c_x_Program_firstRead_1 (l : Launch) (dC : Nat → ClassId) (dI : Nat → Nat → Nat) (cI cZ : ClassId) (ad : Nat → Nat) (z0 : ST) (x1 : Int32) (R : Int32 × ST) (h : x_Program_firstRead_1 z0 x1 = some R) : qMi l y_Program_firstRead w_Program_firstRead 1 21 (KX dC dI cI cZ) (dC, dI) q_cl (wX cI cZ ad) [.ref (ad 1), .int x1] z0 R := by
  intro sz
  refine Met.ofW (cc := b_Program_firstRead) (maxL := 2) (ret := (some .int)) (by decide) rfl ?_
  intro p e s m args below meth c s₁ B hml hv
  obtain ⟨rfl, hsz, hP, hKK, hD0⟩ := hv
  have hx := B.exec
  have hb := B.bytes
  have hr := B.returns
  have hts : ∀ w ∈ q_big, w.before _ s = true := fun w h => atoms_spec (ws := w_Program_firstRead) B.pre w (List.mem_cons_of_mem _ h)
  have hown : s.vm.findClass "SlippedStreams$Program" = some m.cls := findClass_of_methodNamed B.named
  have hlocks := B.notSynchronized
  subst hsz
  have hD := hD0.self (sz := s.heap.size)
  generalize hAe : va_A (wX cI cZ ad z0) s.heap.size = A at hD ⊢
  have hA : ∀ q : Nat, s.heap.size ≤ q → A q := fun q h => by rw [← hAe]; exact Or.inr h
  have hS : va_S A s.heap s.heap [] := va_S.rf
  have hK := hKK.1
  have hl := lv_entry ([.ref (ad 1), .int x1]) (n := 2) (Nat.le_of_ble_eq_true rfl)
  rw [lg_entry_eq]
  generalize (lg_sl ([.ref (ad 1), .int x1]) ++ List.replicate (2 - (lg_sl ([.ref (ad 1), .int x1])).length) Slot.unset).toArray = ls at hl ⊢
  have hl : lv_has ls 2 [(0, .ref (ad 1)), (1, .int x1)] := hl
  have jp_34 : ∀ (z0 : ST) (y1 : Int32) (H : Heap) (locs : List Loc) (ls : Array Slot), x_Program_firstRead_1_34 z0 y1 = some R → va_P (dC, dI) q_cl (wX cI cZ ad z0) H → va_D A (wX cI cZ ad z0) → va_S A s.heap H locs → lv_has ls 2 [(0, .ref (ad 1)), (1, .int y1)] → qWi p l e w_Program_firstRead 1 21 s m [.ref (ad 1), .int x1] below meth c (dC, dI) q_cl (wX cI cZ ad) A R H locs (F0 m 34 ls []) := by
    intro z0 y1 H locs ls h hP hD hS hl
    unfold x_Program_firstRead_1_34 at h
    refine lv_aload_n hx hb d_Program_firstRead_34 rfl (lv_at hl 0 rfl) ?_
    refine xg_1_as hx hb hts hin_Program hown hK hP (hts _ k_88) (fun _ h9 => h9) d_Program_firstRead_35 ?_
    refine lv_iload_n hx hb d_Program_firstRead_38 rfl (lv_at hl 1 rfl) ?_
    obtain ⟨hi, h⟩ := gin_e h
    refine xl_1 hx hb hK hP hi d_Program_firstRead_39 ?_
    refine lv_goto (tgt := 44) hx hb d_Program_firstRead_40 (by decide) ?_
    exact q_iret hx hb hr hlocks h hP hD hS d_Program_firstRead_44
  unfold x_Program_firstRead_1 at h
  refine lv_aload_n hx hb d_Program_firstRead_0 rfl (lv_at hl 0 rfl) ?_
  refine lv_iload_n hx hb d_Program_firstRead_1 rfl (lv_at hl 1 rfl) ?_
  obtain ⟨r1, z1, hc1, h⟩ := obn_e h
  refine q_goi (va_runV (As := [.int x1]) (rest := []) ⟨hx, hb, hml, hown, hts⟩ (c_x_Program_isArithmetic_1 l dC dI cI cZ ad z0 x1 _ hc1 _) (cwV 1 hts (q_goodL _ (q_l4 k_405 k_406 k_407 k_54) k_408) rfl rfl rfl (by decide +kernel) ⟨Nat.le_of_ble_eq_true rfl, Nat.le_of_ble_eq_true rfl⟩) (q_preV qok hKK hP hD (va_recv (ci := 1) (q0 := 1) hK hP rfl rfl)) rfl rfl hl.1 rfl (lv_room (Nat.le_of_ble_eq_true rfl)) d_Program_firstRead_2 ⟨Nat.le_refl _, Nat.le_refl _⟩) hD hS hA (fun H locs hP hD hS => ?_)
  refine lv_if_eq (tgt := 15) hx hb d_Program_firstRead_5 (by decide) (fun hc => ?_) (fun hc => ?_)
  · replace h := if_t hc h
    refine lv_aload_n hx hb d_Program_firstRead_15 rfl (lv_at hl 0 rfl) ?_
    refine lv_iload_n hx hb d_Program_firstRead_16 rfl (lv_at hl 1 rfl) ?_
    obtain ⟨r2, z2, hc2, h⟩ := obn_e h
    refine q_goi (va_runV (As := [.int x1]) (rest := []) ⟨hx, hb, hml, hown, hts⟩ (c_x_Program_isBranch_1 l dC dI cI cZ ad z1 x1 _ hc2 _) (cwV 1 hts (q_goodL _ (q_l4 k_417 k_418 k_419 k_54) k_420) rfl rfl rfl (by decide +kernel) ⟨Nat.le_of_ble_eq_true rfl, Nat.le_of_ble_eq_true rfl⟩) (q_preV qok hKK hP hD (va_recv (ci := 1) (q0 := 1) hK hP rfl rfl)) rfl rfl hl.1 rfl (lv_room (Nat.le_of_ble_eq_true rfl)) d_Program_firstRead_17 ⟨Nat.le_refl _, Nat.le_refl _⟩) hD hS hA (fun H locs hP hD hS => ?_)
    refine lv_if_ne (tgt := 34) hx hb d_Program_firstRead_20 (by decide) (fun hc => ?_) (fun hc => ?_)
    · replace h := if_f hc h
      exact jp_34 z2 x1 _ _ _ h hP hD hS (lv_sub hl [0, 1] rfl)
    · replace h := if_t hc h
      refine lv_aload_n hx hb d_Program_firstRead_23 rfl (lv_at hl 0 rfl) ?_
      refine xg_1_kinds hx hb hts hin_Program hown hK hP (hts _ k_83) (fun _ h9 => h9) d_Program_firstRead_24 ?_
      refine lv_iload_n hx hb d_Program_firstRead_27 rfl (lv_at hl 1 rfl) ?_
      obtain ⟨hi, h⟩ := gin_e h
      refine xl_0 hx hb hK hP hi d_Program_firstRead_28 ?_
      refine lv_bipush (v := 8) hx hb d_Program_firstRead_29 (by decide) ?_
      refine lv_icmp_ne (tgt := 43) hx hb d_Program_firstRead_31 (by decide) (fun hc => ?_) (fun hc => ?_)
      · replace h := if_f hc h
        refine lv_iconst (v := (-1)) hx hb d_Program_firstRead_43 (by decide) ?_
        exact q_iret hx hb hr hlocks h hP hD hS d_Program_firstRead_44
      · replace h := if_t hc h
        exact jp_34 z2 x1 _ _ _ h hP hD hS (lv_sub hl [0, 1] rfl)
  · replace h := if_f hc h
    refine lv_aload_n hx hb d_Program_firstRead_8 rfl (lv_at hl 0 rfl) ?_
    refine xg_1_bs hx hb hts hin_Program hown hK hP (hts _ k_93) (fun _ h9 => h9) d_Program_firstRead_9 ?_
    refine lv_iload_n hx hb d_Program_firstRead_12 rfl (lv_at hl 1 rfl) ?_
    obtain ⟨hi, h⟩ := gin_e h
    refine xl_2 hx hb hK hP hi d_Program_firstRead_13 ?_
    exact q_iret hx hb hr hlocks h hP hD hS d_Program_firstRead_14
def x_Program_secondRead_1 (z0 : ST) (x1 : Int32) : OR := obn (x_Program_isArithmetic_1 z0 x1) (fun r1 z1 => if r1 = 0 then (obn (x_Program_isBranch_1 z1 x1) (fun r2 z2 => if r2 = 0 then (some ((-1), z2)) else (gin x1 24 (some (z2.2 2 x1.toNatClampNeg, z2))))) else (gin x1 24 (some (z1.2 3 x1.toNatClampNeg, z1))))
set_option maxRecDepth 100000 in
set_option maxHeartbeats 4000000 in
theorem c_x_Program_secondRead_1 (l : Launch) (dC : Nat → ClassId) (dI : Nat → Nat → Nat) (cI cZ : ClassId) (ad : Nat → Nat) (z0 : ST) (x1 : Int32) (R : Int32 × ST) (h : x_Program_secondRead_1 z0 x1 = some R) : qMi l y_Program_secondRead w_Program_secondRead 1 21 (KX dC dI cI cZ) (dC, dI) q_cl (wX cI cZ ad) [.ref (ad 1), .int x1] z0 R := by
  intro sz
  refine Met.ofW (cc := b_Program_secondRead) (maxL := 2) (ret := (some .int)) (by decide) rfl ?_
  intro p e s m args below meth c s₁ B hml hv
  obtain ⟨rfl, hsz, hP, hKK, hD0⟩ := hv
  have hx := B.exec
  have hb := B.bytes
  have hr := B.returns
  have hts : ∀ w ∈ q_big, w.before _ s = true := fun w h => atoms_spec (ws := w_Program_secondRead) B.pre w (List.mem_cons_of_mem _ h)
  have hown : s.vm.findClass "SlippedStreams$Program" = some m.cls := findClass_of_methodNamed B.named
  have hlocks := B.notSynchronized
  subst hsz
  have hD := hD0.self (sz := s.heap.size)
  generalize hAe : va_A (wX cI cZ ad z0) s.heap.size = A at hD ⊢
  have hA : ∀ q : Nat, s.heap.size ≤ q → A q := fun q h => by rw [← hAe]; exact Or.inr h
  have hS : va_S A s.heap s.heap [] := va_S.rf
  have hK := hKK.1
  have hl := lv_entry ([.ref (ad 1), .int x1]) (n := 2) (Nat.le_of_ble_eq_true rfl)
  rw [lg_entry_eq]
  generalize (lg_sl ([.ref (ad 1), .int x1]) ++ List.replicate (2 - (lg_sl ([.ref (ad 1), .int x1])).length) Slot.unset).toArray = ls at hl ⊢
  have hl : lv_has ls 2 [(0, .ref (ad 1)), (1, .int x1)] := hl
  unfold x_Program_secondRead_1 at h
  refine lv_aload_n hx hb d_Program_secondRead_0 rfl (lv_at hl 0 rfl) ?_
  refine lv_iload_n hx hb d_Program_secondRead_1 rfl (lv_at hl 1 rfl) ?_
  obtain ⟨r1, z1, hc1, h⟩ := obn_e h
  refine q_goi (va_runV (As := [.int x1]) (rest := []) ⟨hx, hb, hml, hown, hts⟩ (c_x_Program_isArithmetic_1 l dC dI cI cZ ad z0 x1 _ hc1 _) (cwV 1 hts (q_goodL _ (q_l4 k_405 k_406 k_407 k_54) k_408) rfl rfl rfl (by decide +kernel) ⟨Nat.le_of_ble_eq_true rfl, Nat.le_of_ble_eq_true rfl⟩) (q_preV qok hKK hP hD (va_recv (ci := 1) (q0 := 1) hK hP rfl rfl)) rfl rfl hl.1 rfl (lv_room (Nat.le_of_ble_eq_true rfl)) d_Program_secondRead_2 ⟨Nat.le_refl _, Nat.le_refl _⟩) hD hS hA (fun H locs hP hD hS => ?_)
  refine lv_if_eq (tgt := 15) hx hb d_Program_secondRead_5 (by decide) (fun hc => ?_) (fun hc => ?_)
  · replace h := if_t hc h
    refine lv_aload_n hx hb d_Program_secondRead_15 rfl (lv_at hl 0 rfl) ?_
    refine lv_iload_n hx hb d_Program_secondRead_16 rfl (lv_at hl 1 rfl) ?_
    obtain ⟨r2, z2, hc2, h⟩ := obn_e h
    refine q_goi (va_runV (As := [.int x1]) (rest := []) ⟨hx, hb, hml, hown, hts⟩ (c_x_Program_isBranch_1 l dC dI cI cZ ad z1 x1 _ hc2 _) (cwV 1 hts (q_goodL _ (q_l4 k_417 k_418 k_419 k_54) k_420) rfl rfl rfl (by decide +kernel) ⟨Nat.le_of_ble_eq_true rfl, Nat.le_of_ble_eq_true rfl⟩) (q_preV qok hKK hP hD (va_recv (ci := 1) (q0 := 1) hK hP rfl rfl)) rfl rfl hl.1 rfl (lv_room (Nat.le_of_ble_eq_true rfl)) d_Program_secondRead_17 ⟨Nat.le_refl _, Nat.le_refl _⟩) hD hS hA (fun H locs hP hD hS => ?_)
    refine lv_if_eq (tgt := 32) hx hb d_Program_secondRead_20 (by decide) (fun hc => ?_) (fun hc => ?_)
    · replace h := if_t hc h
      refine lv_iconst (v := (-1)) hx hb d_Program_secondRead_32 (by decide) ?_
      exact q_iret hx hb hr hlocks h hP hD hS d_Program_secondRead_33
    · replace h := if_f hc h
      refine lv_aload_n hx hb d_Program_secondRead_23 rfl (lv_at hl 0 rfl) ?_
      refine xg_1_bs hx hb hts hin_Program hown hK hP (hts _ k_93) (fun _ h9 => h9) d_Program_secondRead_24 ?_
      refine lv_iload_n hx hb d_Program_secondRead_27 rfl (lv_at hl 1 rfl) ?_
      obtain ⟨hi, h⟩ := gin_e h
      refine xl_2 hx hb hK hP hi d_Program_secondRead_28 ?_
      refine lv_goto (tgt := 33) hx hb d_Program_secondRead_29 (by decide) ?_
      exact q_iret hx hb hr hlocks h hP hD hS d_Program_secondRead_33
  · replace h := if_f hc h
    refine lv_aload_n hx hb d_Program_secondRead_8 rfl (lv_at hl 0 rfl) ?_
    refine xg_1_cs hx hb hts hin_Program hown hK hP (hts _ k_95) (fun _ h9 => h9) d_Program_secondRead_9 ?_
    refine lv_iload_n hx hb d_Program_secondRead_12 rfl (lv_at hl 1 rfl) ?_
    obtain ⟨hi, h⟩ := gin_e h
    refine xl_3 hx hb hK hP hi d_Program_secondRead_13 ?_
    exact q_iret hx hb hr hlocks h hP hD hS d_Program_secondRead_14
def x_Program_findPassed_1_118 (z0 : ST) (y1 y2 y3 y4 y5 y6 y7 : Int32) : OR := gin y5 24 (bnd (stA z0 7 (upd (z0.2 7) y5.toNatClampNeg (y6 + y7))) (fun z1 => some (0, z1)))
def x_Program_findPassed_1_103 (z0 : ST) (y1 y2 y3 y4 y5 y6 : Int32) : OR := gin y1 24 (if (z0.2 6 y1.toNatClampNeg) = (-1) then (x_Program_findPassed_1_118 z0 y1 y2 y3 y4 y5 y6 0) else (x_Program_findPassed_1_118 z0 y1 y2 y3 y4 y5 y6 1))
def x_Program_findPassed_1_82 (z0 : ST) (y1 y2 y3 y4 y5 y6 : Int32) : OR := gin y5 24 (bnd (stA z0 6 (upd (z0.2 6) y5.toNatClampNeg y6)) (fun z2 => gin y1 24 (if (z2.2 5 y1.toNatClampNeg) = (-1) then (x_Program_findPassed_1_103 z2 y1 y2 y3 y4 y1 0) else (x_Program_findPassed_1_103 z2 y1 y2 y3 y4 y1 1))))
def x_Program_findPassed_1_81 (z0 : ST) (y1 y2 y3 y4 y5 : Int32) : OR := x_Program_findPassed_1_82 z0 y1 y2 y3 y4 y5 (-1)
def x_Program_findPassed_1_51 (z0 : ST) (y1 y2 y3 y4 y5 y6 : Int32) : OR := gin y5 24 (bnd (stA z0 5 (upd (z0.2 5) y5.toNatClampNeg y6)) (fun z3 => if y2 = 0 then (x_Program_findPassed_1_81 z3 y1 y2 y3 y4 y1) else (if y4 = y3 then (x_Program_findPassed_1_81 z3 y1 y2 y3 y4 y1) else (obn (x_Program_isAddressRegister_1 z3 y4) (fun r4 z4 => if r4 = 0 then (x_Program_findPassed_1_81 z4 y1 y2 y3 y4 y1) else (x_Program_findPassed_1_82 z4 y1 y2 y3 y4 y1 y4))))))
def x_Program_findPassed_1_50 (z0 : ST) (y1 y2 y3 y4 y5 : Int32) : OR := x_Program_findPassed_1_51 z0 y1 y2 y3 y4 y5 (-1)
def x_Program_findPassed_1_15 (z0 : ST) (y1 y2 : Int32) : OR := obn (x_Program_firstRead_1 z0 y1) (fun r5 z5 => obn (x_Program_secondRead_1 z5 y1) (fun r6 z6 => if y2 = 0 then (x_Program_findPassed_1_50 z6 y1 y2 r5 r6 y1) else (obn (x_Program_isAddressRegister_1 z6 r5) (fun r7 z7 => if r7 = 0 then (x_Program_findPassed_1_50 z7 y1 y2 r5 r6 y1) else (x_Program_findPassed_1_51 z7 y1 y2 r5 r6 y1 r5)))))
def x_Program_findPassed_1 (z0 : ST) (x1 : Int32) : OR := gin x1 24 (if (z0.2 4 x1.toNatClampNeg) = 1 then (x_Program_findPassed_1_15 z0 x1 1) else (x_Program_findPassed_1_15 z0 x1 0))
set_option maxRecDepth 100000 in
set_option maxHeartbeats 4000000 in
theorem c_x_Program_findPassed_1 (l : Launch) (dC : Nat → ClassId) (dI : Nat → Nat → Nat) (cI cZ : ClassId) (ad : Nat → Nat) (z0 : ST) (x1 : Int32) (R : Int32 × ST) (h : x_Program_findPassed_1 z0 x1 = some R) : qMv l y_Program_findPassed w_Program_findPassed 2 42 (KX dC dI cI cZ) (dC, dI) q_cl (wX cI cZ ad) [.ref (ad 1), .int x1] z0 R := by
  intro sz
  refine Met.ofW (cc := b_Program_findPassed) (maxL := 5) (ret := none) (by decide) rfl ?_
  intro p e s m args below meth c s₁ B hml hv
  obtain ⟨rfl, hsz, hP, hKK, hD0⟩ := hv
  have hx := B.exec
  have hb := B.bytes
  have hr := B.returns
  have hts : ∀ w ∈ q_big, w.before _ s = true := fun w h => atoms_spec (ws := w_Program_findPassed) B.pre w (List.mem_cons_of_mem _ h)
  have hown : s.vm.findClass "SlippedStreams$Program" = some m.cls := findClass_of_methodNamed B.named
  have hlocks := B.notSynchronized
  subst hsz
  have hD := hD0.self (sz := s.heap.size)
  generalize hAe : va_A (wX cI cZ ad z0) s.heap.size = A at hD ⊢
  have hA : ∀ q : Nat, s.heap.size ≤ q → A q := fun q h => by rw [← hAe]; exact Or.inr h
  have hS : va_S A s.heap s.heap [] := va_S.rf
  have hK := hKK.1
  have hl := lv_entry ([.ref (ad 1), .int x1]) (n := 5) (Nat.le_of_ble_eq_true rfl)
  rw [lg_entry_eq]
  generalize (lg_sl ([.ref (ad 1), .int x1]) ++ List.replicate (5 - (lg_sl ([.ref (ad 1), .int x1])).length) Slot.unset).toArray = ls at hl ⊢
  have hl : lv_has ls 5 [(0, .ref (ad 1)), (1, .int x1)] := hl
  have jp_118 : ∀ (z0 : ST) (y1 y2 y3 y4 y5 y6 y7 : Int32) (H : Heap) (locs : List Loc) (ls : Array Slot), x_Program_findPassed_1_118 z0 y1 y2 y3 y4 y5 y6 y7 = some R → va_P (dC, dI) q_cl (wX cI cZ ad z0) H → va_D A (wX cI cZ ad z0) → va_S A s.heap H locs → lv_has ls 5 [(0, .ref (ad 1)), (1, .int y1), (2, .int y2), (3, .int y3), (4, .int y4)] → qWv p l e w_Program_findPassed 2 42 s m [.ref (ad 1), .int x1] below meth c (dC, dI) q_cl (wX cI cZ ad) A R H locs (F0 m 118 ls [.int y7, .int y6, .int y5, .ref (ad 9)]) := by
    intro z0 y1 y2 y3 y4 y5 y6 y7 H locs ls h hP hD hS hl
    unfold x_Program_findPassed_1_118 at h
    refine lv_iadd hx hb d_Program_findPassed_118 ?_
    obtain ⟨hi, h⟩ := gin_e h
    obtain ⟨z1, e1, h⟩ := bnd_e h
    refine xs_7 hx hb hK hP hD hS hi d_Program_findPassed_119 e1 (fun H locs hP hD hS => ?_)
    exact q_vret hx hb hr hlocks h hP hD hS d_Program_findPassed_120
  have jp_103 : ∀ (z0 : ST) (y1 y2 y3 y4 y5 y6 : Int32) (H : Heap) (locs : List Loc) (ls : Array Slot), x_Program_findPassed_1_103 z0 y1 y2 y3 y4 y5 y6 = some R → va_P (dC, dI) q_cl (wX cI cZ ad z0) H → va_D A (wX cI cZ ad z0) → va_S A s.heap H locs → lv_has ls 5 [(0, .ref (ad 1)), (1, .int y1), (2, .int y2), (3, .int y3), (4, .int y4)] → qWv p l e w_Program_findPassed 2 42 s m [.ref (ad 1), .int x1] below meth c (dC, dI) q_cl (wX cI cZ ad) A R H locs (F0 m 103 ls [.int y6, .int y5, .ref (ad 9)]) := by
    intro z0 y1 y2 y3 y4 y5 y6 H locs ls h hP hD hS hl
    unfold x_Program_findPassed_1_103 at h
    refine lv_aload_n hx hb d_Program_findPassed_103 rfl (lv_at hl 0 rfl) ?_
    refine xg_1_secondPassed hx hb hts hin_Program hown hK hP (hts _ k_104) (fun _ h9 => h9) d_Program_findPassed_104 ?_
    refine lv_iload_n hx hb d_Program_findPassed_107 rfl (lv_at hl 1 rfl) ?_
    obtain ⟨hi, h⟩ := gin_e h
    refine xl_6 hx hb hK hP hi d_Program_findPassed_108 ?_
    refine lv_iconst (v := (-1)) hx hb d_Program_findPassed_109 (by decide) ?_
    refine lv_icmp_ne (tgt := 117) hx hb d_Program_findPassed_110 (by decide) (fun hc => ?_) (fun hc => ?_)
    · replace h := if_f hc h
      refine lv_iconst (v := 1) hx hb d_Program_findPassed_117 (by decide) ?_
      exact jp_118 z0 y1 y2 y3 y4 y5 y6 1 _ _ _ h hP hD hS (lv_sub hl [0, 1, 2, 3, 4] rfl)
    · replace h := if_t hc h
      refine lv_iconst (v := 0) hx hb d_Program_findPassed_113 (by decide) ?_
      refine lv_goto (tgt := 118) hx hb d_Program_findPassed_114 (by decide) ?_
      exact jp_118 z0 y1 y2 y3 y4 y5 y6 0 _ _ _ h hP hD hS (lv_sub hl [0, 1, 2, 3, 4] rfl)
  have jp_82 : ∀ (z0 : ST) (y1 y2 y3 y4 y5 y6 : Int32) (H : Heap) (locs : List Loc) (ls : Array Slot), x_Program_findPassed_1_82 z0 y1 y2 y3 y4 y5 y6 = some R → va_P (dC, dI) q_cl (wX cI cZ ad z0) H → va_D A (wX cI cZ ad z0) → va_S A s.heap H locs → lv_has ls 5 [(0, .ref (ad 1)), (1, .int y1), (2, .int y2), (3, .int y3), (4, .int y4)] → qWv p l e w_Program_findPassed 2 42 s m [.ref (ad 1), .int x1] below meth c (dC, dI) q_cl (wX cI cZ ad) A R H locs (F0 m 82 ls [.int y6, .int y5, .ref (ad 8)]) := by
    intro z0 y1 y2 y3 y4 y5 y6 H locs ls h hP hD hS hl
    unfold x_Program_findPassed_1_82 at h
    obtain ⟨hi, h⟩ := gin_e h
    obtain ⟨z2, e2, h⟩ := bnd_e h
    refine xs_6 hx hb hK hP hD hS hi d_Program_findPassed_82 e2 (fun H locs hP hD hS => ?_)
    refine lv_aload_n hx hb d_Program_findPassed_83 rfl (lv_at hl 0 rfl) ?_
    refine xg_1_passedCounts hx hb hts hin_Program hown hK hP (hts _ k_107) (fun _ h9 => h9) d_Program_findPassed_84 ?_
    refine lv_iload_n hx hb d_Program_findPassed_87 rfl (lv_at hl 1 rfl) ?_
    refine lv_aload_n hx hb d_Program_findPassed_88 rfl (lv_at hl 0 rfl) ?_
    refine xg_1_firstPassed hx hb hts hin_Program hown hK hP (hts _ k_101) (fun _ h9 => h9) d_Program_findPassed_89 ?_
    refine lv_iload_n hx hb d_Program_findPassed_92 rfl (lv_at hl 1 rfl) ?_
    obtain ⟨hi, h⟩ := gin_e h
    refine xl_5 hx hb hK hP hi d_Program_findPassed_93 ?_
    refine lv_iconst (v := (-1)) hx hb d_Program_findPassed_94 (by decide) ?_
    refine lv_icmp_ne (tgt := 102) hx hb d_Program_findPassed_95 (by decide) (fun hc => ?_) (fun hc => ?_)
    · replace h := if_f hc h
      refine lv_iconst (v := 1) hx hb d_Program_findPassed_102 (by decide) ?_
      exact jp_103 z2 y1 y2 y3 y4 y1 1 _ _ _ h hP hD hS (lv_sub hl [0, 1, 2, 3, 4] rfl)
    · replace h := if_t hc h
      refine lv_iconst (v := 0) hx hb d_Program_findPassed_98 (by decide) ?_
      refine lv_goto (tgt := 103) hx hb d_Program_findPassed_99 (by decide) ?_
      exact jp_103 z2 y1 y2 y3 y4 y1 0 _ _ _ h hP hD hS (lv_sub hl [0, 1, 2, 3, 4] rfl)
  have jp_81 : ∀ (z0 : ST) (y1 y2 y3 y4 y5 : Int32) (H : Heap) (locs : List Loc) (ls : Array Slot), x_Program_findPassed_1_81 z0 y1 y2 y3 y4 y5 = some R → va_P (dC, dI) q_cl (wX cI cZ ad z0) H → va_D A (wX cI cZ ad z0) → va_S A s.heap H locs → lv_has ls 5 [(0, .ref (ad 1)), (1, .int y1), (2, .int y2), (3, .int y3), (4, .int y4)] → qWv p l e w_Program_findPassed 2 42 s m [.ref (ad 1), .int x1] below meth c (dC, dI) q_cl (wX cI cZ ad) A R H locs (F0 m 81 ls [.int y5, .ref (ad 8)]) := by
    intro z0 y1 y2 y3 y4 y5 H locs ls h hP hD hS hl
    unfold x_Program_findPassed_1_81 at h
    refine lv_iconst (v := (-1)) hx hb d_Program_findPassed_81 (by decide) ?_
    exact jp_82 z0 y1 y2 y3 y4 y5 (-1) _ _ _ h hP hD hS (lv_sub hl [0, 1, 2, 3, 4] rfl)
  have jp_51 : ∀ (z0 : ST) (y1 y2 y3 y4 y5 y6 : Int32) (H : Heap) (locs : List Loc) (ls : Array Slot), x_Program_findPassed_1_51 z0 y1 y2 y3 y4 y5 y6 = some R → va_P (dC, dI) q_cl (wX cI cZ ad z0) H → va_D A (wX cI cZ ad z0) → va_S A s.heap H locs → lv_has ls 5 [(0, .ref (ad 1)), (1, .int y1), (2, .int y2), (3, .int y3), (4, .int y4)] → qWv p l e w_Program_findPassed 2 42 s m [.ref (ad 1), .int x1] below meth c (dC, dI) q_cl (wX cI cZ ad) A R H locs (F0 m 51 ls [.int y6, .int y5, .ref (ad 7)]) := by
    intro z0 y1 y2 y3 y4 y5 y6 H locs ls h hP hD hS hl
    unfold x_Program_findPassed_1_51 at h
    obtain ⟨hi, h⟩ := gin_e h
    obtain ⟨z3, e3, h⟩ := bnd_e h
    refine xs_5 hx hb hK hP hD hS hi d_Program_findPassed_51 e3 (fun H locs hP hD hS => ?_)
    refine lv_aload_n hx hb d_Program_findPassed_52 rfl (lv_at hl 0 rfl) ?_
    refine xg_1_secondPassed hx hb hts hin_Program hown hK hP (hts _ k_104) (fun _ h9 => h9) d_Program_findPassed_53 ?_
    refine lv_iload_n hx hb d_Program_findPassed_56 rfl (lv_at hl 1 rfl) ?_
    refine lv_iload_n hx hb d_Program_findPassed_57 rfl (lv_at hl 2 rfl) ?_
    refine lv_if_eq (tgt := 81) hx hb d_Program_findPassed_58 (by decide) (fun hc => ?_) (fun hc => ?_)
    · replace h := if_t hc h
      exact jp_81 z3 y1 y2 y3 y4 y1 _ _ _ h hP hD hS (lv_sub hl [0, 1, 2, 3, 4] rfl)
    · replace h := if_f hc h
      refine lv_iload hx hb d_Program_findPassed_61 (lv_at hl 4 rfl) ?_
      refine lv_iload_n hx hb d_Program_findPassed_63 rfl (lv_at hl 3 rfl) ?_
      refine lv_icmp_eq (tgt := 81) hx hb d_Program_findPassed_64 (by decide) (fun hc => ?_) (fun hc => ?_)
      · replace h := if_t hc h
        exact jp_81 z3 y1 y2 y3 y4 y1 _ _ _ h hP hD hS (lv_sub hl [0, 1, 2, 3, 4] rfl)
      · replace h := if_f hc h
        refine lv_aload_n hx hb d_Program_findPassed_67 rfl (lv_at hl 0 rfl) ?_
        refine lv_iload hx hb d_Program_findPassed_68 (lv_at hl 4 rfl) ?_
        obtain ⟨r4, z4, hc4, h⟩ := obn_e h
        refine q_goi (va_runV (As := [.int y4]) (rest := [.int y1, .ref (ad 8)]) ⟨hx, hb, hml, hown, hts⟩ (c_x_Program_isAddressRegister_1 l dC dI cI cZ ad z3 y4 _ hc4 _) (cwV 1 hts (q_goodL _ (q_l4 k_409 k_410 k_411 k_54) k_412) rfl rfl rfl (by decide +kernel) ⟨Nat.le_of_ble_eq_true rfl, Nat.le_of_ble_eq_true rfl⟩) (q_preV qok hKK hP hD (va_recv (ci := 1) (q0 := 1) hK hP rfl rfl)) rfl rfl hl.1 rfl (lv_room (Nat.le_of_ble_eq_true rfl)) d_Program_findPassed_70 ⟨Nat.le_refl _, Nat.le_refl _⟩) hD hS hA (fun H locs hP hD hS => ?_)
        refine lv_if_eq (tgt := 81) hx hb d_Program_findPassed_73 (by decide) (fun hc => ?_) (fun hc => ?_)
        · replace h := if_t hc h
          exact jp_81 z4 y1 y2 y3 y4 y1 _ _ _ h hP hD hS (lv_sub hl [0, 1, 2, 3, 4] rfl)
        · replace h := if_f hc h
          refine lv_iload hx hb d_Program_findPassed_76 (lv_at hl 4 rfl) ?_
          refine lv_goto (tgt := 82) hx hb d_Program_findPassed_78 (by decide) ?_
          exact jp_82 z4 y1 y2 y3 y4 y1 y4 _ _ _ h hP hD hS (lv_sub hl [0, 1, 2, 3, 4] rfl)
  have jp_50 : ∀ (z0 : ST) (y1 y2 y3 y4 y5 : Int32) (H : Heap) (locs : List Loc) (ls : Array Slot), x_Program_findPassed_1_50 z0 y1 y2 y3 y4 y5 = some R → va_P (dC, dI) q_cl (wX cI cZ ad z0) H → va_D A (wX cI cZ ad z0) → va_S A s.heap H locs → lv_has ls 5 [(0, .ref (ad 1)), (1, .int y1), (2, .int y2), (3, .int y3), (4, .int y4)] → qWv p l e w_Program_findPassed 2 42 s m [.ref (ad 1), .int x1] below meth c (dC, dI) q_cl (wX cI cZ ad) A R H locs (F0 m 50 ls [.int y5, .ref (ad 7)]) := by
    intro z0 y1 y2 y3 y4 y5 H locs ls h hP hD hS hl
    unfold x_Program_findPassed_1_50 at h
    refine lv_iconst (v := (-1)) hx hb d_Program_findPassed_50 (by decide) ?_
    exact jp_51 z0 y1 y2 y3 y4 y5 (-1) _ _ _ h hP hD hS (lv_sub hl [0, 1, 2, 3, 4] rfl)
  have jp_15 : ∀ (z0 : ST) (y1 y2 : Int32) (H : Heap) (locs : List Loc) (ls : Array Slot), x_Program_findPassed_1_15 z0 y1 y2 = some R → va_P (dC, dI) q_cl (wX cI cZ ad z0) H → va_D A (wX cI cZ ad z0) → va_S A s.heap H locs → lv_has ls 5 [(0, .ref (ad 1)), (1, .int y1)] → qWv p l e w_Program_findPassed 2 42 s m [.ref (ad 1), .int x1] below meth c (dC, dI) q_cl (wX cI cZ ad) A R H locs (F0 m 15 ls [.int y2]) := by
    intro z0 y1 y2 H locs ls h hP hD hS hl
    unfold x_Program_findPassed_1_15 at h
    refine lv_istore_n (lv' := [(2, .int y2), (0, .ref (ad 1)), (1, .int y1)]) hx hb d_Program_findPassed_15 rfl hl (by decide) rfl (fun ls hl => ?_)
    refine lv_aload_n hx hb d_Program_findPassed_16 rfl (lv_at hl 1 rfl) ?_
    refine lv_iload_n hx hb d_Program_findPassed_17 rfl (lv_at hl 2 rfl) ?_
    obtain ⟨r5, z5, hc5, h⟩ := obn_e h
    refine q_goi (va_runV (As := [.int y1]) (rest := []) ⟨hx, hb, hml, hown, hts⟩ (c_x_Program_firstRead_1 l dC dI cI cZ ad z0 y1 _ hc5 _) (cwV 1 hts (q_goodL _ (q_l4 k_425 k_427 k_9 k_54) k_428) rfl rfl rfl (by decide +kernel) ⟨Nat.le_of_ble_eq_true rfl, Nat.le_of_ble_eq_true rfl⟩) (q_preV qok hKK hP hD (va_recv (ci := 1) (q0 := 1) hK hP rfl rfl)) rfl rfl hl.1 rfl (lv_room (Nat.le_of_ble_eq_true rfl)) d_Program_findPassed_18 ⟨Nat.le_refl _, Nat.le_refl _⟩) hD hS hA (fun H locs hP hD hS => ?_)
    refine lv_istore_n (lv' := [(3, .int r5), (2, .int y2), (0, .ref (ad 1)), (1, .int y1)]) hx hb d_Program_findPassed_21 rfl hl (by decide) rfl (fun ls hl => ?_)
    refine lv_aload_n hx hb d_Program_findPassed_22 rfl (lv_at hl 2 rfl) ?_
    refine lv_iload_n hx hb d_Program_findPassed_23 rfl (lv_at hl 3 rfl) ?_
    obtain ⟨r6, z6, hc6, h⟩ := obn_e h
    refine q_goi (va_runV (As := [.int y1]) (rest := []) ⟨hx, hb, hml, hown, hts⟩ (c_x_Program_secondRead_1 l dC dI cI cZ ad z5 y1 _ hc6 _) (cwV 1 hts (q_goodL _ (q_l4 k_429 k_431 k_10 k_54) k_432) rfl rfl rfl (by decide +kernel) ⟨Nat.le_of_ble_eq_true rfl, Nat.le_of_ble_eq_true rfl⟩) (q_preV qok hKK hP hD (va_recv (ci := 1) (q0 := 1) hK hP rfl rfl)) rfl rfl hl.1 rfl (lv_room (Nat.le_of_ble_eq_true rfl)) d_Program_findPassed_24 ⟨Nat.le_refl _, Nat.le_refl _⟩) hD hS hA (fun H locs hP hD hS => ?_)
    refine lv_istore (lv' := [(4, .int r6), (3, .int r5), (2, .int y2), (0, .ref (ad 1)), (1, .int y1)]) hx hb d_Program_findPassed_27 hl (by decide) rfl (fun ls hl => ?_)
    refine lv_aload_n hx hb d_Program_findPassed_29 rfl (lv_at hl 3 rfl) ?_
    refine xg_1_firstPassed hx hb hts hin_Program hown hK hP (hts _ k_101) (fun _ h9 => h9) d_Program_findPassed_30 ?_
    refine lv_iload_n hx hb d_Program_findPassed_33 rfl (lv_at hl 4 rfl) ?_
    refine lv_iload_n hx hb d_Program_findPassed_34 rfl (lv_at hl 2 rfl) ?_
    refine lv_if_eq (tgt := 50) hx hb d_Program_findPassed_35 (by decide) (fun hc => ?_) (fun hc => ?_)
    · replace h := if_t hc h
      exact jp_50 z6 y1 y2 r5 r6 y1 _ _ _ h hP hD hS (lv_sub hl [3, 4, 2, 1, 0] rfl)
    · replace h := if_f hc h
      refine lv_aload_n hx hb d_Program_findPassed_38 rfl (lv_at hl 3 rfl) ?_
      refine lv_iload_n hx hb d_Program_findPassed_39 rfl (lv_at hl 1 rfl) ?_
      obtain ⟨r7, z7, hc7, h⟩ := obn_e h
      refine q_goi (va_runV (As := [.int r5]) (rest := [.int y1, .ref (ad 7)]) ⟨hx, hb, hml, hown, hts⟩ (c_x_Program_isAddressRegister_1 l dC dI cI cZ ad z6 r5 _ hc7 _) (cwV 1 hts (q_goodL _ (q_l4 k_409 k_410 k_411 k_54) k_412) rfl rfl rfl (by decide +kernel) ⟨Nat.le_of_ble_eq_true rfl, Nat.le_of_ble_eq_true rfl⟩) (q_preV qok hKK hP hD (va_recv (ci := 1) (q0 := 1) hK hP rfl rfl)) rfl rfl hl.1 rfl (lv_room (Nat.le_of_ble_eq_true rfl)) d_Program_findPassed_40 ⟨Nat.le_refl _, Nat.le_refl _⟩) hD hS hA (fun H locs hP hD hS => ?_)
      refine lv_if_eq (tgt := 50) hx hb d_Program_findPassed_43 (by decide) (fun hc => ?_) (fun hc => ?_)
      · replace h := if_t hc h
        exact jp_50 z7 y1 y2 r5 r6 y1 _ _ _ h hP hD hS (lv_sub hl [3, 4, 2, 1, 0] rfl)
      · replace h := if_f hc h
        refine lv_iload_n hx hb d_Program_findPassed_46 rfl (lv_at hl 1 rfl) ?_
        refine lv_goto (tgt := 51) hx hb d_Program_findPassed_47 (by decide) ?_
        exact jp_51 z7 y1 y2 r5 r6 y1 r5 _ _ _ h hP hD hS (lv_sub hl [3, 4, 2, 1, 0] rfl)
  unfold x_Program_findPassed_1 at h
  refine lv_aload_n hx hb d_Program_findPassed_0 rfl (lv_at hl 0 rfl) ?_
  refine xg_1_streams hx hb hts hin_Program hown hK hP (hts _ k_97) (fun _ h9 => h9) d_Program_findPassed_1 ?_
  refine lv_iload_n hx hb d_Program_findPassed_4 rfl (lv_at hl 1 rfl) ?_
  obtain ⟨hi, h⟩ := gin_e h
  refine xl_4 hx hb hK hP hi d_Program_findPassed_5 ?_
  refine lv_iconst (v := 1) hx hb d_Program_findPassed_6 (by decide) ?_
  refine lv_icmp_ne (tgt := 14) hx hb d_Program_findPassed_7 (by decide) (fun hc => ?_) (fun hc => ?_)
  · replace h := if_f hc h
    refine lv_iconst (v := 0) hx hb d_Program_findPassed_14 (by decide) ?_
    exact jp_15 z0 x1 0 _ _ _ h hP hD hS (lv_sub hl [0, 1] rfl)
  · replace h := if_t hc h
    refine lv_iconst (v := 1) hx hb d_Program_findPassed_10 (by decide) ?_
    refine lv_goto (tgt := 15) hx hb d_Program_findPassed_11 (by decide) ?_
    exact jp_15 z0 x1 1 _ _ _ h hP hD hS (lv_sub hl [0, 1] rfl)
def x_Program_findNothings_1_112 (z0 : ST) (y1 y2 y3 y4 y5 : Int32) : OR := gin y4 24 (gib y5 (bnd (stA z0 9 (upd (z0.2 9) y4.toNatClampNeg y5)) (fun z1 => some (0, z1))))
def x_Program_findNothings_1_111 (z0 : ST) (y1 y2 y3 y4 : Int32) : OR := x_Program_findNothings_1_112 z0 y1 y2 y3 y4 0
def x_Program_findNothings_1_85 (z0 : ST) (y1 y2 y3 y4 y5 : Int32) : OR := gin y4 24 (gib y5 (bnd (stA z0 8 (upd (z0.2 8) y4.toNatClampNeg y5)) (fun z2 => if y2 = 0 then (x_Program_findNothings_1_111 z2 y1 y2 y3 y1) else (obn (x_Program_isBranch_1 z2 y1) (fun r3 z3 => if r3 = 0 then (if y3 = 0 then (x_Program_findNothings_1_112 z3 y1 y2 y3 y1 1) else (x_Program_findNothings_1_111 z3 y1 y2 y3 y1)) else (x_Program_findNothings_1_111 z3 y1 y2 y3 y1))))))
def x_Program_findNothings_1_84 (z0 : ST) (y1 y2 y3 y4 : Int32) : OR := x_Program_findNothings_1_85 z0 y1 y2 y3 y4 0
def x_Program_findNothings_1_43 (z0 : ST) (y1 y2 y3 : Int32) : OR := if y2 = 0 then (gin y1 24 (if (z0.2 0 y1.toNatClampNeg) = 4 then (x_Program_findNothings_1_84 z0 y1 y2 y3 y1) else (obn (x_Program_isBranch_1 z0 y1) (fun r4 z4 => if r4 = 0 then (gin y1 24 (if (z4.2 7 y1.toNatClampNeg) = 0 then (x_Program_findNothings_1_85 z4 y1 y2 y3 y1 1) else (x_Program_findNothings_1_84 z4 y1 y2 y3 y1))) else (x_Program_findNothings_1_84 z4 y1 y2 y3 y1))))) else (x_Program_findNothings_1_84 z0 y1 y2 y3 y1)
def x_Program_findNothings_1_42 (z0 : ST) (y1 y2 : Int32) : OR := x_Program_findNothings_1_43 z0 y1 y2 0
def x_Program_findNothings_1_14 (z0 : ST) (y1 y2 : Int32) : OR := gin y1 24 (if (z0.2 0 y1.toNatClampNeg) = 5 then (gin y1 24 (obn (x_Program_isAddressRegister_1 z0 (z0.2 1 y1.toNatClampNeg)) (fun r5 z5 => if r5 = 0 then (x_Program_findNothings_1_43 z5 y1 y2 1) else (x_Program_findNothings_1_42 z5 y1 y2)))) else (x_Program_findNothings_1_42 z0 y1 y2))
def x_Program_findNothings_1 (z0 : ST) (x1 : Int32) : OR := gin x1 24 (if (z0.2 4 x1.toNatClampNeg) = 0 then (x_Program_findNothings_1_14 z0 x1 1) else (x_Program_findNothings_1_14 z0 x1 0))
set_option maxRecDepth 100000 in
set_option maxHeartbeats 4000000 in
theorem c_x_Program_findNothings_1 (l : Launch) (dC : Nat → ClassId) (dI : Nat → Nat → Nat) (cI cZ : ClassId) (ad : Nat → Nat) (z0 : ST) (x1 : Int32) (R : Int32 × ST) (h : x_Program_findNothings_1 z0 x1 = some R) : qMv l y_Program_findNothings w_Program_findNothings 1 21 (KX dC dI cI cZ) (dC, dI) q_cl (wX cI cZ ad) [.ref (ad 1), .int x1] z0 R := by
  intro sz
  refine Met.ofW (cc := b_Program_findNothings) (maxL := 4) (ret := none) (by decide) rfl ?_
  intro p e s m args below meth c s₁ B hml hv
  obtain ⟨rfl, hsz, hP, hKK, hD0⟩ := hv
  have hx := B.exec
  have hb := B.bytes
  have hr := B.returns
  have hts : ∀ w ∈ q_big, w.before _ s = true := fun w h => atoms_spec (ws := w_Program_findNothings) B.pre w (List.mem_cons_of_mem _ h)
  have hown : s.vm.findClass "SlippedStreams$Program" = some m.cls := findClass_of_methodNamed B.named
  have hlocks := B.notSynchronized
  subst hsz
  have hD := hD0.self (sz := s.heap.size)
  generalize hAe : va_A (wX cI cZ ad z0) s.heap.size = A at hD ⊢
  have hA : ∀ q : Nat, s.heap.size ≤ q → A q := fun q h => by rw [← hAe]; exact Or.inr h
  have hS : va_S A s.heap s.heap [] := va_S.rf
  have hK := hKK.1
  have hl := lv_entry ([.ref (ad 1), .int x1]) (n := 4) (Nat.le_of_ble_eq_true rfl)
  rw [lg_entry_eq]
  generalize (lg_sl ([.ref (ad 1), .int x1]) ++ List.replicate (4 - (lg_sl ([.ref (ad 1), .int x1])).length) Slot.unset).toArray = ls at hl ⊢
  have hl : lv_has ls 4 [(0, .ref (ad 1)), (1, .int x1)] := hl
  have jp_112 : ∀ (z0 : ST) (y1 y2 y3 y4 y5 : Int32) (H : Heap) (locs : List Loc) (ls : Array Slot), x_Program_findNothings_1_112 z0 y1 y2 y3 y4 y5 = some R → va_P (dC, dI) q_cl (wX cI cZ ad z0) H → va_D A (wX cI cZ ad z0) → va_S A s.heap H locs → lv_has ls 4 [(0, .ref (ad 1)), (1, .int y1), (2, .int y2), (3, .int y3)] → qWv p l e w_Program_findNothings 1 21 s m [.ref (ad 1), .int x1] below meth c (dC, dI) q_cl (wX cI cZ ad) A R H locs (F0 m 112 ls [.int y5, .int y4, .ref (ad 11)]) := by
    intro z0 y1 y2 y3 y4 y5 H locs ls h hP hD hS hl
    unfold x_Program_findNothings_1_112 at h
    obtain ⟨hi, h⟩ := gin_e h
    obtain ⟨hv, h⟩ := gib_e h
    obtain ⟨z1, e1, h⟩ := bnd_e h
    refine xs_9 hx hb hK hP hD hS hi hv d_Program_findNothings_112 e1 (fun H locs hP hD hS => ?_)
    exact q_vret hx hb hr hlocks h hP hD hS d_Program_findNothings_113
  have jp_111 : ∀ (z0 : ST) (y1 y2 y3 y4 : Int32) (H : Heap) (locs : List Loc) (ls : Array Slot), x_Program_findNothings_1_111 z0 y1 y2 y3 y4 = some R → va_P (dC, dI) q_cl (wX cI cZ ad z0) H → va_D A (wX cI cZ ad z0) → va_S A s.heap H locs → lv_has ls 4 [(0, .ref (ad 1)), (1, .int y1), (2, .int y2), (3, .int y3)] → qWv p l e w_Program_findNothings 1 21 s m [.ref (ad 1), .int x1] below meth c (dC, dI) q_cl (wX cI cZ ad) A R H locs (F0 m 111 ls [.int y4, .ref (ad 11)]) := by
    intro z0 y1 y2 y3 y4 H locs ls h hP hD hS hl
    unfold x_Program_findNothings_1_111 at h
    refine lv_iconst (v := 0) hx hb d_Program_findNothings_111 (by decide) ?_
    exact jp_112 z0 y1 y2 y3 y4 0 _ _ _ h hP hD hS (lv_sub hl [0, 1, 2, 3] rfl)
  have jp_85 : ∀ (z0 : ST) (y1 y2 y3 y4 y5 : Int32) (H : Heap) (locs : List Loc) (ls : Array Slot), x_Program_findNothings_1_85 z0 y1 y2 y3 y4 y5 = some R → va_P (dC, dI) q_cl (wX cI cZ ad z0) H → va_D A (wX cI cZ ad z0) → va_S A s.heap H locs → lv_has ls 4 [(0, .ref (ad 1)), (1, .int y1), (2, .int y2), (3, .int y3)] → qWv p l e w_Program_findNothings 1 21 s m [.ref (ad 1), .int x1] below meth c (dC, dI) q_cl (wX cI cZ ad) A R H locs (F0 m 85 ls [.int y5, .int y4, .ref (ad 10)]) := by
    intro z0 y1 y2 y3 y4 y5 H locs ls h hP hD hS hl
    unfold x_Program_findNothings_1_85 at h
    obtain ⟨hi, h⟩ := gin_e h
    obtain ⟨hv, h⟩ := gib_e h
    obtain ⟨z2, e2, h⟩ := bnd_e h
    refine xs_8 hx hb hK hP hD hS hi hv d_Program_findNothings_85 e2 (fun H locs hP hD hS => ?_)
    refine lv_aload_n hx hb d_Program_findNothings_86 rfl (lv_at hl 0 rfl) ?_
    refine xg_1_nothingForValues hx hb hts hin_Program hown hK hP (hts _ k_113) (fun _ h9 => h9) d_Program_findNothings_87 ?_
    refine lv_iload_n hx hb d_Program_findNothings_90 rfl (lv_at hl 1 rfl) ?_
    refine lv_iload_n hx hb d_Program_findNothings_91 rfl (lv_at hl 2 rfl) ?_
    refine lv_if_eq (tgt := 111) hx hb d_Program_findNothings_92 (by decide) (fun hc => ?_) (fun hc => ?_)
    · replace h := if_t hc h
      exact jp_111 z2 y1 y2 y3 y1 _ _ _ h hP hD hS (lv_sub hl [0, 1, 2, 3] rfl)
    · replace h := if_f hc h
      refine lv_aload_n hx hb d_Program_findNothings_95 rfl (lv_at hl 0 rfl) ?_
      refine lv_iload_n hx hb d_Program_findNothings_96 rfl (lv_at hl 1 rfl) ?_
      obtain ⟨r3, z3, hc3, h⟩ := obn_e h
      refine q_goi (va_runV (As := [.int y1]) (rest := [.int y1, .ref (ad 11)]) ⟨hx, hb, hml, hown, hts⟩ (c_x_Program_isBranch_1 l dC dI cI cZ ad z2 y1 _ hc3 _) (cwV 1 hts (q_goodL _ (q_l4 k_417 k_418 k_419 k_54) k_420) rfl rfl rfl (by decide +kernel) ⟨Nat.le_of_ble_eq_true rfl, Nat.le_of_ble_eq_true rfl⟩) (q_preV qok hKK hP hD (va_recv (ci := 1) (q0 := 1) hK hP rfl rfl)) rfl rfl hl.1 rfl (lv_room (Nat.le_of_ble_eq_true rfl)) d_Program_findNothings_97 ⟨Nat.le_refl _, Nat.le_refl _⟩) hD hS hA (fun H locs hP hD hS => ?_)
      refine lv_if_ne (tgt := 111) hx hb d_Program_findNothings_100 (by decide) (fun hc => ?_) (fun hc => ?_)
      · replace h := if_f hc h
        exact jp_111 z3 y1 y2 y3 y1 _ _ _ h hP hD hS (lv_sub hl [0, 1, 2, 3] rfl)
      · replace h := if_t hc h
        refine lv_iload_n hx hb d_Program_findNothings_103 rfl (lv_at hl 3 rfl) ?_
        refine lv_if_ne (tgt := 111) hx hb d_Program_findNothings_104 (by decide) (fun hc => ?_) (fun hc => ?_)
        · replace h := if_f hc h
          exact jp_111 z3 y1 y2 y3 y1 _ _ _ h hP hD hS (lv_sub hl [0, 1, 2, 3] rfl)
        · replace h := if_t hc h
          refine lv_iconst (v := 1) hx hb d_Program_findNothings_107 (by decide) ?_
          refine lv_goto (tgt := 112) hx hb d_Program_findNothings_108 (by decide) ?_
          exact jp_112 z3 y1 y2 y3 y1 1 _ _ _ h hP hD hS (lv_sub hl [0, 1, 2, 3] rfl)
  have jp_84 : ∀ (z0 : ST) (y1 y2 y3 y4 : Int32) (H : Heap) (locs : List Loc) (ls : Array Slot), x_Program_findNothings_1_84 z0 y1 y2 y3 y4 = some R → va_P (dC, dI) q_cl (wX cI cZ ad z0) H → va_D A (wX cI cZ ad z0) → va_S A s.heap H locs → lv_has ls 4 [(0, .ref (ad 1)), (1, .int y1), (2, .int y2), (3, .int y3)] → qWv p l e w_Program_findNothings 1 21 s m [.ref (ad 1), .int x1] below meth c (dC, dI) q_cl (wX cI cZ ad) A R H locs (F0 m 84 ls [.int y4, .ref (ad 10)]) := by
    intro z0 y1 y2 y3 y4 H locs ls h hP hD hS hl
    unfold x_Program_findNothings_1_84 at h
    refine lv_iconst (v := 0) hx hb d_Program_findNothings_84 (by decide) ?_
    exact jp_85 z0 y1 y2 y3 y4 0 _ _ _ h hP hD hS (lv_sub hl [0, 1, 2, 3] rfl)
  have jp_43 : ∀ (z0 : ST) (y1 y2 y3 : Int32) (H : Heap) (locs : List Loc) (ls : Array Slot), x_Program_findNothings_1_43 z0 y1 y2 y3 = some R → va_P (dC, dI) q_cl (wX cI cZ ad z0) H → va_D A (wX cI cZ ad z0) → va_S A s.heap H locs → lv_has ls 4 [(0, .ref (ad 1)), (1, .int y1), (2, .int y2)] → qWv p l e w_Program_findNothings 1 21 s m [.ref (ad 1), .int x1] below meth c (dC, dI) q_cl (wX cI cZ ad) A R H locs (F0 m 43 ls [.int y3]) := by
    intro z0 y1 y2 y3 H locs ls h hP hD hS hl
    unfold x_Program_findNothings_1_43 at h
    refine lv_istore_n (lv' := [(3, .int y3), (0, .ref (ad 1)), (1, .int y1), (2, .int y2)]) hx hb d_Program_findNothings_43 rfl hl (by decide) rfl (fun ls hl => ?_)
    refine lv_aload_n hx hb d_Program_findNothings_44 rfl (lv_at hl 1 rfl) ?_
    refine xg_1_nothingForAddresses hx hb hts hin_Program hown hK hP (hts _ k_111) (fun _ h9 => h9) d_Program_findNothings_45 ?_
    refine lv_iload_n hx hb d_Program_findNothings_48 rfl (lv_at hl 2 rfl) ?_
    refine lv_iload_n hx hb d_Program_findNothings_49 rfl (lv_at hl 3 rfl) ?_
    refine lv_if_ne (tgt := 84) hx hb d_Program_findNothings_50 (by decide) (fun hc => ?_) (fun hc => ?_)
    · replace h := if_f hc h
      exact jp_84 z0 y1 y2 y3 y1 _ _ _ h hP hD hS (lv_sub hl [1, 2, 3, 0] rfl)
    · replace h := if_t hc h
      refine lv_aload_n hx hb d_Program_findNothings_53 rfl (lv_at hl 1 rfl) ?_
      refine xg_1_kinds hx hb hts hin_Program hown hK hP (hts _ k_83) (fun _ h9 => h9) d_Program_findNothings_54 ?_
      refine lv_iload_n hx hb d_Program_findNothings_57 rfl (lv_at hl 2 rfl) ?_
      obtain ⟨hi, h⟩ := gin_e h
      refine xl_0 hx hb hK hP hi d_Program_findNothings_58 ?_
      refine lv_iconst (v := 4) hx hb d_Program_findNothings_59 (by decide) ?_
      refine lv_icmp_eq (tgt := 84) hx hb d_Program_findNothings_60 (by decide) (fun hc => ?_) (fun hc => ?_)
      · replace h := if_t hc h
        exact jp_84 z0 y1 y2 y3 y1 _ _ _ h hP hD hS (lv_sub hl [1, 2, 3, 0] rfl)
      · replace h := if_f hc h
        refine lv_aload_n hx hb d_Program_findNothings_63 rfl (lv_at hl 1 rfl) ?_
        refine lv_iload_n hx hb d_Program_findNothings_64 rfl (lv_at hl 2 rfl) ?_
        obtain ⟨r4, z4, hc4, h⟩ := obn_e h
        refine q_goi (va_runV (As := [.int y1]) (rest := [.int y1, .ref (ad 10)]) ⟨hx, hb, hml, hown, hts⟩ (c_x_Program_isBranch_1 l dC dI cI cZ ad z0 y1 _ hc4 _) (cwV 1 hts (q_goodL _ (q_l4 k_417 k_418 k_419 k_54) k_420) rfl rfl rfl (by decide +kernel) ⟨Nat.le_of_ble_eq_true rfl, Nat.le_of_ble_eq_true rfl⟩) (q_preV qok hKK hP hD (va_recv (ci := 1) (q0 := 1) hK hP rfl rfl)) rfl rfl hl.1 rfl (lv_room (Nat.le_of_ble_eq_true rfl)) d_Program_findNothings_65 ⟨Nat.le_refl _, Nat.le_refl _⟩) hD hS hA (fun H locs hP hD hS => ?_)
        refine lv_if_ne (tgt := 84) hx hb d_Program_findNothings_68 (by decide) (fun hc => ?_) (fun hc => ?_)
        · replace h := if_f hc h
          exact jp_84 z4 y1 y2 y3 y1 _ _ _ h hP hD hS (lv_sub hl [1, 2, 3, 0] rfl)
        · replace h := if_t hc h
          refine lv_aload_n hx hb d_Program_findNothings_71 rfl (lv_at hl 1 rfl) ?_
          refine xg_1_passedCounts hx hb hts hin_Program hown hK hP (hts _ k_107) (fun _ h9 => h9) d_Program_findNothings_72 ?_
          refine lv_iload_n hx hb d_Program_findNothings_75 rfl (lv_at hl 2 rfl) ?_
          obtain ⟨hi, h⟩ := gin_e h
          refine xl_7 hx hb hK hP hi d_Program_findNothings_76 ?_
          refine lv_if_ne (tgt := 84) hx hb d_Program_findNothings_77 (by decide) (fun hc => ?_) (fun hc => ?_)
          · replace h := if_f hc h
            exact jp_84 z4 y1 y2 y3 y1 _ _ _ h hP hD hS (lv_sub hl [1, 2, 3, 0] rfl)
          · replace h := if_t hc h
            refine lv_iconst (v := 1) hx hb d_Program_findNothings_80 (by decide) ?_
            refine lv_goto (tgt := 85) hx hb d_Program_findNothings_81 (by decide) ?_
            exact jp_85 z4 y1 y2 y3 y1 1 _ _ _ h hP hD hS (lv_sub hl [1, 2, 3, 0] rfl)
  have jp_42 : ∀ (z0 : ST) (y1 y2 : Int32) (H : Heap) (locs : List Loc) (ls : Array Slot), x_Program_findNothings_1_42 z0 y1 y2 = some R → va_P (dC, dI) q_cl (wX cI cZ ad z0) H → va_D A (wX cI cZ ad z0) → va_S A s.heap H locs → lv_has ls 4 [(0, .ref (ad 1)), (1, .int y1), (2, .int y2)] → qWv p l e w_Program_findNothings 1 21 s m [.ref (ad 1), .int x1] below meth c (dC, dI) q_cl (wX cI cZ ad) A R H locs (F0 m 42 ls []) := by
    intro z0 y1 y2 H locs ls h hP hD hS hl
    unfold x_Program_findNothings_1_42 at h
    refine lv_iconst (v := 0) hx hb d_Program_findNothings_42 (by decide) ?_
    exact jp_43 z0 y1 y2 0 _ _ _ h hP hD hS (lv_sub hl [0, 1, 2] rfl)
  have jp_14 : ∀ (z0 : ST) (y1 y2 : Int32) (H : Heap) (locs : List Loc) (ls : Array Slot), x_Program_findNothings_1_14 z0 y1 y2 = some R → va_P (dC, dI) q_cl (wX cI cZ ad z0) H → va_D A (wX cI cZ ad z0) → va_S A s.heap H locs → lv_has ls 4 [(0, .ref (ad 1)), (1, .int y1)] → qWv p l e w_Program_findNothings 1 21 s m [.ref (ad 1), .int x1] below meth c (dC, dI) q_cl (wX cI cZ ad) A R H locs (F0 m 14 ls [.int y2]) := by
    intro z0 y1 y2 H locs ls h hP hD hS hl
    unfold x_Program_findNothings_1_14 at h
    refine lv_istore_n (lv' := [(2, .int y2), (0, .ref (ad 1)), (1, .int y1)]) hx hb d_Program_findNothings_14 rfl hl (by decide) rfl (fun ls hl => ?_)
    refine lv_aload_n hx hb d_Program_findNothings_15 rfl (lv_at hl 1 rfl) ?_
    refine xg_1_kinds hx hb hts hin_Program hown hK hP (hts _ k_83) (fun _ h9 => h9) d_Program_findNothings_16 ?_
    refine lv_iload_n hx hb d_Program_findNothings_19 rfl (lv_at hl 2 rfl) ?_
    obtain ⟨hi, h⟩ := gin_e h
    refine xl_0 hx hb hK hP hi d_Program_findNothings_20 ?_
    refine lv_iconst (v := 5) hx hb d_Program_findNothings_21 (by decide) ?_
    refine lv_icmp_ne (tgt := 42) hx hb d_Program_findNothings_22 (by decide) (fun hc => ?_) (fun hc => ?_)
    · replace h := if_f hc h
      exact jp_42 z0 y1 y2 _ _ _ h hP hD hS (lv_sub hl [1, 2, 0] rfl)
    · replace h := if_t hc h
      refine lv_aload_n hx hb d_Program_findNothings_25 rfl (lv_at hl 1 rfl) ?_
      refine lv_aload_n hx hb d_Program_findNothings_26 rfl (lv_at hl 1 rfl) ?_
      refine xg_1_as hx hb hts hin_Program hown hK hP (hts _ k_88) (fun _ h9 => h9) d_Program_findNothings_27 ?_
      refine lv_iload_n hx hb d_Program_findNothings_30 rfl (lv_at hl 2 rfl) ?_
      obtain ⟨hi, h⟩ := gin_e h
      refine xl_1 hx hb hK hP hi d_Program_findNothings_31 ?_
      obtain ⟨r5, z5, hc5, h⟩ := obn_e h
      refine q_goi (va_runV (As := [.int (z0.2 1 y1.toNatClampNeg)]) (rest := []) ⟨hx, hb, hml, hown, hts⟩ (c_x_Program_isAddressRegister_1 l dC dI cI cZ ad z0 (z0.2 1 y1.toNatClampNeg) _ hc5 _) (cwV 1 hts (q_goodL _ (q_l4 k_409 k_410 k_411 k_54) k_412) rfl rfl rfl (by decide +kernel) ⟨Nat.le_of_ble_eq_true rfl, Nat.le_of_ble_eq_true rfl⟩) (q_preV qok hKK hP hD (va_recv (ci := 1) (q0 := 1) hK hP rfl rfl)) rfl rfl hl.1 rfl (lv_room (Nat.le_of_ble_eq_true rfl)) d_Program_findNothings_32 ⟨Nat.le_refl _, Nat.le_refl _⟩) hD hS hA (fun H locs hP hD hS => ?_)
      refine lv_if_ne (tgt := 42) hx hb d_Program_findNothings_35 (by decide) (fun hc => ?_) (fun hc => ?_)
      · replace h := if_f hc h
        exact jp_42 z5 y1 y2 _ _ _ h hP hD hS (lv_sub hl [1, 2, 0] rfl)
      · replace h := if_t hc h
        refine lv_iconst (v := 1) hx hb d_Program_findNothings_38 (by decide) ?_
        refine lv_goto (tgt := 43) hx hb d_Program_findNothings_39 (by decide) ?_
        exact jp_43 z5 y1 y2 1 _ _ _ h hP hD hS (lv_sub hl [1, 2, 0] rfl)
  unfold x_Program_findNothings_1 at h
  refine lv_aload_n hx hb d_Program_findNothings_0 rfl (lv_at hl 0 rfl) ?_
  refine xg_1_streams hx hb hts hin_Program hown hK hP (hts _ k_97) (fun _ h9 => h9) d_Program_findNothings_1 ?_
  refine lv_iload_n hx hb d_Program_findNothings_4 rfl (lv_at hl 1 rfl) ?_
  obtain ⟨hi, h⟩ := gin_e h
  refine xl_4 hx hb hK hP hi d_Program_findNothings_5 ?_
  refine lv_if_ne (tgt := 13) hx hb d_Program_findNothings_6 (by decide) (fun hc => ?_) (fun hc => ?_)
  · replace h := if_f hc h
    refine lv_iconst (v := 0) hx hb d_Program_findNothings_13 (by decide) ?_
    exact jp_14 z0 x1 0 _ _ _ h hP hD hS (lv_sub hl [0, 1] rfl)
  · replace h := if_t hc h
    refine lv_iconst (v := 1) hx hb d_Program_findNothings_9 (by decide) ?_
    refine lv_goto (tgt := 14) hx hb d_Program_findNothings_10 (by decide) ?_
    exact jp_14 z0 x1 1 _ _ _ h hP hD hS (lv_sub hl [0, 1] rfl)
def x_Program_slice_1_g0 (k : Nat → ST → Int32 → Int32 → Int32 → OR) (z0 : ST) (y1 y2 y3 : Int32) : OR := obn (x_Program_findAddressRegisters_1 z0) (fun r1 z1 => k 1 z1 0 0 0)
def x_Program_slice_1_g6 (k : Nat → ST → Int32 → Int32 → Int32 → OR) (z0 : ST) (y1 y2 y3 : Int32) : OR := if (z0.1 1) ≤ y1 then (some (0, z0)) else (obn (x_Program_belongsToAddresses_1 z0 y1) (fun r2 z2 => if r2 = 0 then (k 2 z2 y1 y1 1) else (k 2 z2 y1 y1 0)))
def x_Program_slice_1_g32 (k : Nat → ST → Int32 → Int32 → Int32 → OR) (z0 : ST) (y1 y2 y3 : Int32) : OR := gin y2 24 (bnd (stA z0 4 (upd (z0.2 4) y2.toNatClampNeg y3)) (fun z3 => obn (x_Program_findPassed_1 z3 y1) (fun r4 z4 => obn (x_Program_findNothings_1 z4 y1) (fun r5 z5 => k 1 z5 (y1 + 1) 0 0))))
def x_Program_slice_1_g (k : Nat → ST → Int32 → Int32 → Int32 → OR) (n : Nat) : ST → Int32 → Int32 → Int32 → OR := match n with
  | 0 => x_Program_slice_1_g0 k
  | 1 => x_Program_slice_1_g6 k
  | 2 => x_Program_slice_1_g32 k
  | _ => fun _ _ _ _ => none
def x_Program_slice_1_f : Nat → Nat → ST → Int32 → Int32 → Int32 → OR
  | 0 => fun _ _ _ _ _ => none
  | n + 1 => x_Program_slice_1_g (x_Program_slice_1_f n)
def x_Program_slice_1 (z0 : ST) : OR := x_Program_slice_1_f 4000 0 z0 0 0 0
set_option maxRecDepth 100000 in
set_option maxHeartbeats 4000000 in
theorem c_x_Program_slice_1 (l : Launch) (dC : Nat → ClassId) (dI : Nat → Nat → Nat) (cI cZ : ClassId) (ad : Nat → Nat) (z0 : ST) (R : Int32 × ST) (h : x_Program_slice_1 z0 = some R) : qMv l y_Program_slice w_Program_slice 3 66 (KX dC dI cI cZ) (dC, dI) q_cl (wX cI cZ ad) [.ref (ad 1)] z0 R := by
  intro sz
  refine Met.ofW (cc := b_Program_slice) (maxL := 2) (ret := none) (by decide) rfl ?_
  intro p e s m args below meth c s₁ B hml hv
  obtain ⟨rfl, hsz, hP, hKK, hD0⟩ := hv
  have hx := B.exec
  have hb := B.bytes
  have hr := B.returns
  have hts : ∀ w ∈ q_big, w.before _ s = true := fun w h => atoms_spec (ws := w_Program_slice) B.pre w (List.mem_cons_of_mem _ h)
  have hown : s.vm.findClass "SlippedStreams$Program" = some m.cls := findClass_of_methodNamed B.named
  have hlocks := B.notSynchronized
  subst hsz
  have hD := hD0.self (sz := s.heap.size)
  generalize hAe : va_A (wX cI cZ ad z0) s.heap.size = A at hD ⊢
  have hA : ∀ q : Nat, s.heap.size ≤ q → A q := fun q h => by rw [← hAe]; exact Or.inr h
  have hS : va_S A s.heap s.heap [] := va_S.rf
  have hK := hKK.1
  have hl := lv_entry ([.ref (ad 1)]) (n := 2) (Nat.le_of_ble_eq_true rfl)
  rw [lg_entry_eq]
  generalize (lg_sl ([.ref (ad 1)]) ++ List.replicate (2 - (lg_sl ([.ref (ad 1)])).length) Slot.unset).toArray = ls at hl ⊢
  have hl : lv_has ls 2 [(0, .ref (ad 1))] := hl
  have key : ∀ n : Nat, (∀ (z0 : ST) (y1 y2 y3 : Int32) (H : Heap) (locs : List Loc) (ls : Array Slot), x_Program_slice_1_f n 0 z0 y1 y2 y3 = some R → va_P (dC, dI) q_cl (wX cI cZ ad z0) H → va_D A (wX cI cZ ad z0) → va_S A s.heap H locs → lv_has ls 2 [(0, .ref (ad 1))] → qWv p l e w_Program_slice 3 66 s m [.ref (ad 1)] below meth c (dC, dI) q_cl (wX cI cZ ad) A R H locs (F0 m 0 ls [])) ∧ (∀ (z0 : ST) (y1 y2 y3 : Int32) (H : Heap) (locs : List Loc) (ls : Array Slot), x_Program_slice_1_f n 1 z0 y1 y2 y3 = some R → va_P (dC, dI) q_cl (wX cI cZ ad z0) H → va_D A (wX cI cZ ad z0) → va_S A s.heap H locs → lv_has ls 2 [(0, .ref (ad 1)), (1, .int y1)] → qWv p l e w_Program_slice 3 66 s m [.ref (ad 1)] below meth c (dC, dI) q_cl (wX cI cZ ad) A R H locs (F0 m 6 ls [])) ∧ (∀ (z0 : ST) (y1 y2 y3 : Int32) (H : Heap) (locs : List Loc) (ls : Array Slot), x_Program_slice_1_f n 2 z0 y1 y2 y3 = some R → va_P (dC, dI) q_cl (wX cI cZ ad z0) H → va_D A (wX cI cZ ad z0) → va_S A s.heap H locs → lv_has ls 2 [(0, .ref (ad 1)), (1, .int y1)] → qWv p l e w_Program_slice 3 66 s m [.ref (ad 1)] below meth c (dC, dI) q_cl (wX cI cZ ad) A R H locs (F0 m 32 ls [.int y3, .int y2, .ref (ad 6)])) := by
    intro n
    induction n with
    | zero => exact ⟨fun z0 y1 y2 y3 H locs ls h hP hD hS hl => (by cases h), fun z0 y1 y2 y3 H locs ls h hP hD hS hl => (by cases h), fun z0 y1 y2 y3 H locs ls h hP hD hS hl => (by cases h)⟩
    | succ n ih =>
      obtain ⟨jp_0, jp_6, jp_32⟩ := ih
      refine ⟨?_, ?_, ?_⟩
      · intro z0 y1 y2 y3 H locs ls h hP hD hS hl
        replace h : x_Program_slice_1_g0 (x_Program_slice_1_f n) z0 y1 y2 y3 = some R := h
        unfold x_Program_slice_1_g0 at h
        refine lv_aload_n hx hb d_Program_slice_0 rfl (lv_at hl 0 rfl) ?_
        obtain ⟨r1, z1, hc1, h⟩ := obn_e h
        refine q_gov (va_runV (As := []) (rest := []) ⟨hx, hb, hml, hown, hts⟩ (c_x_Program_findAddressRegisters_1 l dC dI cI cZ ad z0 _ hc1 _) (cwV 0 hts (q_goodL _ (q_l4 k_401 k_403 k_6 k_54) k_404) rfl rfl rfl (by decide +kernel) ⟨Nat.le_of_ble_eq_true rfl, Nat.le_of_ble_eq_true rfl⟩) (q_preV qok hKK hP hD (va_recv (ci := 1) (q0 := 1) hK hP rfl rfl)) rfl rfl hl.1 rfl (lv_room (Nat.le_of_ble_eq_true rfl)) d_Program_slice_1 ⟨Nat.le_refl _, Nat.le_refl _⟩) hD hS hA (fun H locs hP hD hS => ?_)
        refine lv_iconst (v := 0) hx hb d_Program_slice_4 (by decide) ?_
        refine lv_istore_n (lv' := [(1, .int 0), (0, .ref (ad 1))]) hx hb d_Program_slice_5 rfl hl (by decide) rfl (fun ls hl => ?_)
        exact jp_6 z1 0 0 0 _ _ _ h hP hD hS (lv_sub hl [1, 0] rfl)
      · intro z0 y1 y2 y3 H locs ls h hP hD hS hl
        replace h : x_Program_slice_1_g6 (x_Program_slice_1_f n) z0 y1 y2 y3 = some R := h
        unfold x_Program_slice_1_g6 at h
        refine lv_iload_n hx hb d_Program_slice_6 rfl (lv_at hl 1 rfl) ?_
        refine lv_aload_n hx hb d_Program_slice_7 rfl (lv_at hl 0 rfl) ?_
        refine xg_1_size hx hb hts hin_Program hown hK hP (hts _ k_115) (fun _ h9 => h9) d_Program_slice_8 ?_
        refine lv_icmp_ge (tgt := 49) hx hb d_Program_slice_11 (by decide) (fun hc => ?_) (fun hc => ?_)
        · replace h := if_t hc h
          exact q_vret hx hb hr hlocks h hP hD hS d_Program_slice_49
        · replace h := if_f hc h
          refine lv_aload_n hx hb d_Program_slice_14 rfl (lv_at hl 0 rfl) ?_
          refine xg_1_streams hx hb hts hin_Program hown hK hP (hts _ k_97) (fun _ h9 => h9) d_Program_slice_15 ?_
          refine lv_iload_n hx hb d_Program_slice_18 rfl (lv_at hl 1 rfl) ?_
          refine lv_aload_n hx hb d_Program_slice_19 rfl (lv_at hl 0 rfl) ?_
          refine lv_iload_n hx hb d_Program_slice_20 rfl (lv_at hl 1 rfl) ?_
          obtain ⟨r2, z2, hc2, h⟩ := obn_e h
          refine q_goi (va_runV (As := [.int y1]) (rest := [.int y1, .ref (ad 6)]) ⟨hx, hb, hml, hown, hts⟩ (c_x_Program_belongsToAddresses_1 l dC dI cI cZ ad z0 y1 _ hc2 _) (cwV 1 hts (q_goodL _ (q_l4 k_413 k_415 k_7 k_54) k_416) rfl rfl rfl (by decide +kernel) ⟨Nat.le_of_ble_eq_true rfl, Nat.le_of_ble_eq_true rfl⟩) (q_preV qok hKK hP hD (va_recv (ci := 1) (q0 := 1) hK hP rfl rfl)) rfl rfl hl.1 rfl (lv_room (Nat.le_of_ble_eq_true rfl)) d_Program_slice_21 ⟨Nat.le_refl _, Nat.le_refl _⟩) hD hS hA (fun H locs hP hD hS => ?_)
          refine lv_if_eq (tgt := 31) hx hb d_Program_slice_24 (by decide) (fun hc => ?_) (fun hc => ?_)
          · replace h := if_t hc h
            refine lv_iconst (v := 1) hx hb d_Program_slice_31 (by decide) ?_
            exact jp_32 z2 y1 y1 1 _ _ _ h hP hD hS (lv_sub hl [0, 1] rfl)
          · replace h := if_f hc h
            refine lv_iconst (v := 0) hx hb d_Program_slice_27 (by decide) ?_
            refine lv_goto (tgt := 32) hx hb d_Program_slice_28 (by decide) ?_
            exact jp_32 z2 y1 y1 0 _ _ _ h hP hD hS (lv_sub hl [0, 1] rfl)
      · intro z0 y1 y2 y3 H locs ls h hP hD hS hl
        replace h : x_Program_slice_1_g32 (x_Program_slice_1_f n) z0 y1 y2 y3 = some R := h
        unfold x_Program_slice_1_g32 at h
        obtain ⟨hi, h⟩ := gin_e h
        obtain ⟨z3, e3, h⟩ := bnd_e h
        refine xs_4 hx hb hK hP hD hS hi d_Program_slice_32 e3 (fun H locs hP hD hS => ?_)
        refine lv_aload_n hx hb d_Program_slice_33 rfl (lv_at hl 0 rfl) ?_
        refine lv_iload_n hx hb d_Program_slice_34 rfl (lv_at hl 1 rfl) ?_
        obtain ⟨r4, z4, hc4, h⟩ := obn_e h
        refine q_gov (va_runV (As := [.int y1]) (rest := []) ⟨hx, hb, hml, hown, hts⟩ (c_x_Program_findPassed_1 l dC dI cI cZ ad z3 y1 _ hc4 _) (cwV 1 hts (q_goodL _ (q_l4 k_421 k_423 k_8 k_54) k_424) rfl rfl rfl (by decide +kernel) ⟨Nat.le_of_ble_eq_true rfl, Nat.le_of_ble_eq_true rfl⟩) (q_preV qok hKK hP hD (va_recv (ci := 1) (q0 := 1) hK hP rfl rfl)) rfl rfl hl.1 rfl (lv_room (Nat.le_of_ble_eq_true rfl)) d_Program_slice_35 ⟨Nat.le_refl _, Nat.le_refl _⟩) hD hS hA (fun H locs hP hD hS => ?_)
        refine lv_aload_n hx hb d_Program_slice_38 rfl (lv_at hl 0 rfl) ?_
        refine lv_iload_n hx hb d_Program_slice_39 rfl (lv_at hl 1 rfl) ?_
        obtain ⟨r5, z5, hc5, h⟩ := obn_e h
        refine q_gov (va_runV (As := [.int y1]) (rest := []) ⟨hx, hb, hml, hown, hts⟩ (c_x_Program_findNothings_1 l dC dI cI cZ ad z4 y1 _ hc5 _) (cwV 1 hts (q_goodL _ (q_l4 k_433 k_435 k_11 k_54) k_436) rfl rfl rfl (by decide +kernel) ⟨Nat.le_of_ble_eq_true rfl, Nat.le_of_ble_eq_true rfl⟩) (q_preV qok hKK hP hD (va_recv (ci := 1) (q0 := 1) hK hP rfl rfl)) rfl rfl hl.1 rfl (lv_room (Nat.le_of_ble_eq_true rfl)) d_Program_slice_40 ⟨Nat.le_refl _, Nat.le_refl _⟩) hD hS hA (fun H locs hP hD hS => ?_)
        refine lv_iinc (k := 1) (v := y1 + 1) (lv' := [(1, .int (y1 + 1)), (0, .ref (ad 1))]) hx hb d_Program_slice_43 hl rfl rfl (by decide) rfl (fun ls hl => ?_)
        refine lv_goto (tgt := 6) hx hb d_Program_slice_46 (by decide) ?_
        exact jp_6 z5 (y1 + 1) 0 0 _ _ _ h hP hD hS (lv_sub hl [1, 0] rfl)
  exact (key 4000).1 z0 0 0 0 _ _ _ h hP hD hS (lv_sub hl [0] rfl)
def x_Program_append_1 (z0 : ST) (x1 x2 x3 x4 : Int32) : OR := gin (z0.1 1) 24 (bnd (stA z0 0 (upd (z0.2 0) (z0.1 1).toNatClampNeg x1)) (fun z1 => gin (z0.1 1) 24 (bnd (stA z1 1 (upd (z1.2 1) (z0.1 1).toNatClampNeg x2)) (fun z2 => gin (z0.1 1) 24 (bnd (stA z2 2 (upd (z2.2 2) (z0.1 1).toNatClampNeg x3)) (fun z3 => gin (z0.1 1) 24 (bnd (stA z3 3 (upd (z3.2 3) (z0.1 1).toNatClampNeg x4)) (fun z4 => bnd (stI z4 1 ((z4.1 1) + 1)) (fun z5 => obn (x_Program_slice_1 z5) (fun r6 z6 => some (z0.1 1, z6)))))))))))
set_option maxRecDepth 100000 in
set_option maxHeartbeats 4000000 in
theorem c_x_Program_append_1 (l : Launch) (dC : Nat → ClassId) (dI : Nat → Nat → Nat) (cI cZ : ClassId) (ad : Nat → Nat) (z0 : ST) (x1 x2 x3 x4 : Int32) (R : Int32 × ST) (h : x_Program_append_1 z0 x1 x2 x3 x4 = some R) : qMi l y_Program_append w_Program_append 4 87 (KX dC dI cI cZ) (dC, dI) q_cl (wX cI cZ ad) [.ref (ad 1), .int x1, .int x2, .int x3, .int x4] z0 R := by
  intro sz
  refine Met.ofW (cc := b_Program_append) (maxL := 6) (ret := (some .int)) (by decide) rfl ?_
  intro p e s m args below meth c s₁ B hml hv
  obtain ⟨rfl, hsz, hP, hKK, hD0⟩ := hv
  have hx := B.exec
  have hb := B.bytes
  have hr := B.returns
  have hts : ∀ w ∈ q_big, w.before _ s = true := fun w h => atoms_spec (ws := w_Program_append) B.pre w (List.mem_cons_of_mem _ h)
  have hown : s.vm.findClass "SlippedStreams$Program" = some m.cls := findClass_of_methodNamed B.named
  have hlocks := B.notSynchronized
  subst hsz
  have hD := hD0.self (sz := s.heap.size)
  generalize hAe : va_A (wX cI cZ ad z0) s.heap.size = A at hD ⊢
  have hA : ∀ q : Nat, s.heap.size ≤ q → A q := fun q h => by rw [← hAe]; exact Or.inr h
  have hS : va_S A s.heap s.heap [] := va_S.rf
  have hK := hKK.1
  have hl := lv_entry ([.ref (ad 1), .int x1, .int x2, .int x3, .int x4]) (n := 6) (Nat.le_of_ble_eq_true rfl)
  rw [lg_entry_eq]
  generalize (lg_sl ([.ref (ad 1), .int x1, .int x2, .int x3, .int x4]) ++ List.replicate (6 - (lg_sl ([.ref (ad 1), .int x1, .int x2, .int x3, .int x4])).length) Slot.unset).toArray = ls at hl ⊢
  have hl : lv_has ls 6 [(0, .ref (ad 1)), (1, .int x1), (2, .int x2), (3, .int x3), (4, .int x4)] := hl
  unfold x_Program_append_1 at h
  refine lv_aload_n hx hb d_Program_append_0 rfl (lv_at hl 0 rfl) ?_
  refine xg_1_size hx hb hts hin_Program hown hK hP (hts _ k_115) (fun _ h9 => h9) d_Program_append_1 ?_
  refine lv_istore (lv' := [(5, .int (z0.1 1)), (0, .ref (ad 1)), (1, .int x1), (2, .int x2), (3, .int x3), (4, .int x4)]) hx hb d_Program_append_4 hl (by decide) rfl (fun ls hl => ?_)
  refine lv_aload_n hx hb d_Program_append_6 rfl (lv_at hl 1 rfl) ?_
  refine xg_1_kinds hx hb hts hin_Program hown hK hP (hts _ k_83) (fun _ h9 => h9) d_Program_append_7 ?_
  refine lv_iload hx hb d_Program_append_10 (lv_at hl 0 rfl) ?_
  refine lv_iload_n hx hb d_Program_append_12 rfl (lv_at hl 2 rfl) ?_
  obtain ⟨hi, h⟩ := gin_e h
  obtain ⟨z1, e1, h⟩ := bnd_e h
  refine xs_0 hx hb hK hP hD hS hi d_Program_append_13 e1 (fun H locs hP hD hS => ?_)
  refine lv_aload_n hx hb d_Program_append_14 rfl (lv_at hl 1 rfl) ?_
  refine xg_1_as hx hb hts hin_Program hown hK hP (hts _ k_88) (fun _ h9 => h9) d_Program_append_15 ?_
  refine lv_iload hx hb d_Program_append_18 (lv_at hl 0 rfl) ?_
  refine lv_iload_n hx hb d_Program_append_20 rfl (lv_at hl 3 rfl) ?_
  obtain ⟨hi, h⟩ := gin_e h
  obtain ⟨z2, e2, h⟩ := bnd_e h
  refine xs_1 hx hb hK hP hD hS hi d_Program_append_21 e2 (fun H locs hP hD hS => ?_)
  refine lv_aload_n hx hb d_Program_append_22 rfl (lv_at hl 1 rfl) ?_
  refine xg_1_bs hx hb hts hin_Program hown hK hP (hts _ k_93) (fun _ h9 => h9) d_Program_append_23 ?_
  refine lv_iload hx hb d_Program_append_26 (lv_at hl 0 rfl) ?_
  refine lv_iload_n hx hb d_Program_append_28 rfl (lv_at hl 4 rfl) ?_
  obtain ⟨hi, h⟩ := gin_e h
  obtain ⟨z3, e3, h⟩ := bnd_e h
  refine xs_2 hx hb hK hP hD hS hi d_Program_append_29 e3 (fun H locs hP hD hS => ?_)
  refine lv_aload_n hx hb d_Program_append_30 rfl (lv_at hl 1 rfl) ?_
  refine xg_1_cs hx hb hts hin_Program hown hK hP (hts _ k_95) (fun _ h9 => h9) d_Program_append_31 ?_
  refine lv_iload hx hb d_Program_append_34 (lv_at hl 0 rfl) ?_
  refine lv_iload hx hb d_Program_append_36 (lv_at hl 5 rfl) ?_
  obtain ⟨hi, h⟩ := gin_e h
  obtain ⟨z4, e4, h⟩ := bnd_e h
  refine xs_3 hx hb hK hP hD hS hi d_Program_append_38 e4 (fun H locs hP hD hS => ?_)
  refine lv_aload_n hx hb d_Program_append_39 rfl (lv_at hl 1 rfl) ?_
  refine lv_dup hx hb d_Program_append_40 rfl ?_
  refine xg_1_size hx hb hts hin_Program hown hK hP (hts _ k_115) (fun _ h9 => h9) d_Program_append_41 ?_
  refine lv_iconst (v := 1) hx hb d_Program_append_44 (by decide) ?_
  refine lv_iadd hx hb d_Program_append_45 ?_
  obtain ⟨z5, e5, h⟩ := bnd_e h
  refine xp_1_size hx hb hts hin_Program hown hK hP hD hS (hts _ k_115) (fun _ h9 => h9) d_Program_append_46 e5 (fun H locs hP hD hS => ?_)
  refine lv_aload_n hx hb d_Program_append_49 rfl (lv_at hl 1 rfl) ?_
  obtain ⟨r6, z6, hc6, h⟩ := obn_e h
  refine q_gov (va_runV (As := []) (rest := []) ⟨hx, hb, hml, hown, hts⟩ (c_x_Program_slice_1 l dC dI cI cZ ad z5 _ hc6 _) (cwV 0 hts (q_goodL _ (q_l4 k_397 k_399 k_5 k_54) k_400) rfl rfl rfl (by decide +kernel) ⟨Nat.le_of_ble_eq_true rfl, Nat.le_of_ble_eq_true rfl⟩) (q_preV qok hKK hP hD (va_recv (ci := 1) (q0 := 1) hK hP rfl rfl)) rfl rfl hl.1 rfl (lv_room (Nat.le_of_ble_eq_true rfl)) d_Program_append_50 ⟨Nat.le_refl _, Nat.le_refl _⟩) hD hS hA (fun H locs hP hD hS => ?_)
  refine lv_iload hx hb d_Program_append_53 (lv_at hl 0 rfl) ?_
  exact q_iret hx hb hr hlocks h hP hD hS d_Program_append_55
