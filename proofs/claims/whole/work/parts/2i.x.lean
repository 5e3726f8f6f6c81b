def x_Fifo_take_15_35 (z0 : ST) (y1 y2 : Int32) : OR := bnd (stI z0 3 y2) (fun z1 => bnd (stI z1 4 ((z1.1 4) - 1)) (fun z2 => some (y1, z2)))
def x_Fifo_take_15 (z0 : ST) : OR := gin (z0.1 3) 4 (if 4 ≤ ((z0.1 3) + 1) then (x_Fifo_take_15_35 z0 (z0.2 12 (z0.1 3).toNatClampNeg) 0) else (x_Fifo_take_15_35 z0 (z0.2 12 (z0.1 3).toNatClampNeg) ((z0.1 3) + 1)))
set_option maxRecDepth 100000 in
set_option maxHeartbeats 4000000 in
theorem c_x_Fifo_take_15 (l : Launch) (dC : Nat → ClassId) (dI : Nat → Nat → Nat) (cI cZ : ClassId) (ad : Nat → Nat) (z0 : ST) (R : Int32 × ST) (h : x_Fifo_take_15 z0 = some R) : qMi l y_Fifo_take w_Fifo_take 0 0 (KX dC dI cI cZ) (dC, dI) q_cl (wX cI cZ ad) [.ref (ad 15)] z0 R := by
  intro sz
  refine Met.ofW (cc := b_Fifo_take) (maxL := 2) (ret := (some .int)) (by decide) rfl ?_
  intro p e s m args below meth c s₁ B hml hv
  obtain ⟨rfl, hsz, hP, hKK, hD0⟩ := hv
  have hx := B.exec
  have hb := B.bytes
  have hr := B.returns
  have hts : ∀ w ∈ q_big, w.before _ s = true := fun w h => atoms_spec (ws := w_Fifo_take) B.pre w (List.mem_cons_of_mem _ h)
  have hown : s.vm.findClass "SlippedStreams$Fifo" = some m.cls := findClass_of_methodNamed B.named
  have hlocks := B.notSynchronized
  subst hsz
  have hD := hD0.self (sz := s.heap.size)
  generalize hAe : va_A (wX cI cZ ad z0) s.heap.size = A at hD ⊢
  have hA : ∀ q : Nat, s.heap.size ≤ q → A q := fun q h => by rw [← hAe]; exact Or.inr h
  have hS : va_S A s.heap s.heap [] := va_S.rf
  have hK := hKK.1
  have hl := lv_entry ([.ref (ad 15)]) (n := 2) (Nat.le_of_ble_eq_true rfl)
  rw [lg_entry_eq]
  generalize (lg_sl ([.ref (ad 15)]) ++ List.replicate (2 - (lg_sl ([.ref (ad 15)])).length) Slot.unset).toArray = ls at hl ⊢
  have hl : lv_has ls 2 [(0, .ref (ad 15))] := hl
  have jp_35 : ∀ (z0 : ST) (y1 y2 : Int32) (H : Heap) (locs : List Loc) (ls : Array Slot), x_Fifo_take_15_35 z0 y1 y2 = some R → va_P (dC, dI) q_cl (wX cI cZ ad z0) H → va_D A (wX cI cZ ad z0) → va_S A s.heap H locs → lv_has ls 2 [(0, .ref (ad 15)), (1, .int y1)] → qWi p l e w_Fifo_take 0 0 s m [.ref (ad 15)] below meth c (dC, dI) q_cl (wX cI cZ ad) A R H locs (F0 m 35 ls [.int y2, .ref (ad 15)]) := by
    intro z0 y1 y2 H locs ls h hP hD hS hl
    unfold x_Fifo_take_15_35 at h
    obtain ⟨z1, e1, h⟩ := bnd_e h
    refine xp_15_first hx hb hts hin_Fifo hown hK hP hD hS (hts _ k_160) (fun _ h9 => h9) d_Fifo_take_35 e1 (fun H locs hP hD hS => ?_)
    refine lv_aload_n hx hb d_Fifo_take_38 rfl (lv_at hl 0 rfl) ?_
    refine lv_dup hx hb d_Fifo_take_39 rfl ?_
    refine xg_15_size hx hb hts hin_Fifo hown hK hP (hts _ k_161) (fun _ h9 => h9) d_Fifo_take_40 ?_
    refine lv_iconst (v := 1) hx hb d_Fifo_take_43 (by decide) ?_
    refine lv_isub hx hb d_Fifo_take_44 ?_
    obtain ⟨z2, e2, h⟩ := bnd_e h
    refine xp_15_size hx hb hts hin_Fifo hown hK hP hD hS (hts _ k_161) (fun _ h9 => h9) d_Fifo_take_45 e2 (fun H locs hP hD hS => ?_)
    refine lv_iload_n hx hb d_Fifo_take_48 rfl (lv_at hl 1 rfl) ?_
    exact q_iret hx hb hr hlocks h hP hD hS d_Fifo_take_49
  unfold x_Fifo_take_15 at h
  refine lv_aload_n hx hb d_Fifo_take_0 rfl (lv_at hl 0 rfl) ?_
  refine xg_15_things hx hb hts hin_Fifo hown hK hP (hts _ k_159) (fun _ h9 => h9) d_Fifo_take_1 ?_
  refine lv_aload_n hx hb d_Fifo_take_4 rfl (lv_at hl 0 rfl) ?_
  refine xg_15_first hx hb hts hin_Fifo hown hK hP (hts _ k_160) (fun _ h9 => h9) d_Fifo_take_5 ?_
  obtain ⟨hi, h⟩ := gin_e h
  refine xl_12 hx hb hK hP hi d_Fifo_take_8 ?_
  refine lv_istore_n (lv' := [(1, .int (z0.2 12 (z0.1 3).toNatClampNeg)), (0, .ref (ad 15))]) hx hb d_Fifo_take_9 rfl hl (by decide) rfl (fun ls hl => ?_)
  refine lv_aload_n hx hb d_Fifo_take_10 rfl (lv_at hl 1 rfl) ?_
  refine lv_aload_n hx hb d_Fifo_take_11 rfl (lv_at hl 1 rfl) ?_
  refine xg_15_first hx hb hts hin_Fifo hown hK hP (hts _ k_160) (fun _ h9 => h9) d_Fifo_take_12 ?_
  refine lv_iconst (v := 1) hx hb d_Fifo_take_15 (by decide) ?_
  refine lv_iadd hx hb d_Fifo_take_16 ?_
  refine lv_aload_n hx hb d_Fifo_take_17 rfl (lv_at hl 1 rfl) ?_
  refine xg_15_things hx hb hts hin_Fifo hown hK hP (hts _ k_159) (fun _ h9 => h9) d_Fifo_take_18 ?_
  refine va_alen (v := 4) hx hb hK hP 20 0 rfl rfl rfl d_Fifo_take_21 ?_
  refine lv_icmp_ge (tgt := 34) hx hb d_Fifo_take_22 (by decide) (fun hc => ?_) (fun hc => ?_)
  · replace h := if_t hc h
    refine lv_iconst (v := 0) hx hb d_Fifo_take_34 (by decide) ?_
    exact jp_35 z0 (z0.2 12 (z0.1 3).toNatClampNeg) 0 _ _ _ h hP hD hS (lv_sub hl [1, 0] rfl)
  · replace h := if_f hc h
    refine lv_aload_n hx hb d_Fifo_take_25 rfl (lv_at hl 1 rfl) ?_
    refine xg_15_first hx hb hts hin_Fifo hown hK hP (hts _ k_160) (fun _ h9 => h9) d_Fifo_take_26 ?_
    refine lv_iconst (v := 1) hx hb d_Fifo_take_29 (by decide) ?_
    refine lv_iadd hx hb d_Fifo_take_30 ?_
    refine lv_goto (tgt := 35) hx hb d_Fifo_take_31 (by decide) ?_
    exact jp_35 z0 (z0.2 12 (z0.1 3).toNatClampNeg) ((z0.1 3) + 1) _ _ _ h hP hD hS (lv_sub hl [1, 0] rfl)
def x_ValueStream_receiveLoad_31 (z0 : ST) (x1 : Int32) : OR := if (z0.1 4) = 0 then (gib 0 (some (0, z0))) else (gin x1 24 (obn (x_Fifo_take_15 z0) (fun r1 z1 => gin (z0.2 1 x1.toNatClampNeg) 8 (bnd (stA z1 21 (upd (z1.2 21) (z0.2 1 x1.toNatClampNeg).toNatClampNeg r1)) (fun z2 => obn (x_Stream_leaveFor_31 z2 (x1 + 1)) (fun r3 z3 => gib r3 (some (r3, z3))))))))
set_option maxRecDepth 100000 in
set_option maxHeartbeats 4000000 in
theorem c_x_ValueStream_receiveLoad_31 (l : Launch) (dC : Nat → ClassId) (dI : Nat → Nat → Nat) (cI cZ : ClassId) (ad : Nat → Nat) (z0 : ST) (x1 : Int32) (R : Int32 × ST) (h : x_ValueStream_receiveLoad_31 z0 x1 = some R) : qMi l y_ValueStream_receiveLoad w_ValueStream_receiveLoad 2 41 (KX dC dI cI cZ) (dC, dI) q_cl (wX cI cZ ad) [.ref (ad 31), .int x1] z0 R := by
  intro sz
  refine Met.ofW (cc := b_ValueStream_receiveLoad) (maxL := 2) (ret := (some .boolean)) (by decide) rfl ?_
  intro p e s m args below meth c s₁ B hml hv
  obtain ⟨rfl, hsz, hP, hKK, hD0⟩ := hv
  have hx := B.exec
  have hb := B.bytes
  have hr := B.returns
  have hts : ∀ w ∈ q_big, w.before _ s = true := fun w h => atoms_spec (ws := w_ValueStream_receiveLoad) B.pre w (List.mem_cons_of_mem _ h)
  have hown : s.vm.findClass "SlippedStreams$ValueStream" = some m.cls := findClass_of_methodNamed B.named
  have hlocks := B.notSynchronized
  subst hsz
  have hD := hD0.self (sz := s.heap.size)
  generalize hAe : va_A (wX cI cZ ad z0) s.heap.size = A at hD ⊢
  have hA : ∀ q : Nat, s.heap.size ≤ q → A q := fun q h => by rw [← hAe]; exact Or.inr h
  have hS : va_S A s.heap s.heap [] := va_S.rf
  have hK := hKK.1
  have hl := lv_entry ([.ref (ad 31), .int x1]) (n := 2) (Nat.le_of_ble_eq_true rfl)
  rw [lg_entry_eq]
  generalize (lg_sl ([.ref (ad 31), .int x1]) ++ List.replicate (2 - (lg_sl ([.ref (ad 31), .int x1])).length) Slot.unset).toArray = ls at hl ⊢
  have hl : lv_has ls 2 [(0, .ref (ad 31)), (1, .int x1)] := hl
  unfold x_ValueStream_receiveLoad_31 at h
  refine lv_aload_n hx hb d_ValueStream_receiveLoad_0 rfl (lv_at hl 0 rfl) ?_
  refine xg_31_link hx hb hts hin_ValueStream hown hK hP (hts _ k_255) (fun x9 h9 => u_same (hts _ k_256) x9 h9) d_ValueStream_receiveLoad_1 ?_
  refine xg_13_loads hx hb hts hin_Link hown hK hP (hts _ k_203) (fun _ h9 => h9) d_ValueStream_receiveLoad_4 ?_
  refine xg_15_size hx hb hts hin_Fifo hown hK hP (hts _ k_162) (fun _ h9 => h9) d_ValueStream_receiveLoad_7 ?_
  refine lv_if_ne (tgt := 15) hx hb d_ValueStream_receiveLoad_10 (by decide) (fun hc => ?_) (fun hc => ?_)
  · replace h := if_f hc h
    refine lv_aload_n hx hb d_ValueStream_receiveLoad_15 rfl (lv_at hl 0 rfl) ?_
    refine xg_31_registers hx hb hts hin_ValueStream hown hK hP (hts _ k_279) (fun x9 h9 => u_same (hts _ k_280) x9 h9) d_ValueStream_receiveLoad_16 ?_
    refine lv_aload_n hx hb d_ValueStream_receiveLoad_19 rfl (lv_at hl 0 rfl) ?_
    refine xg_31_program hx hb hts hin_ValueStream hown hK hP (hts _ k_268) (fun x9 h9 => u_same (hts _ k_269) x9 h9) d_ValueStream_receiveLoad_20 ?_
    refine xg_1_as hx hb hts hin_Program hown hK hP (hts _ k_90) (fun _ h9 => h9) d_ValueStream_receiveLoad_23 ?_
    refine lv_iload_n hx hb d_ValueStream_receiveLoad_26 rfl (lv_at hl 1 rfl) ?_
    obtain ⟨hi, h⟩ := gin_e h
    refine xl_1 hx hb hK hP hi d_ValueStream_receiveLoad_27 ?_
    refine lv_aload_n hx hb d_ValueStream_receiveLoad_28 rfl (lv_at hl 0 rfl) ?_
    refine xg_31_link hx hb hts hin_ValueStream hown hK hP (hts _ k_255) (fun x9 h9 => u_same (hts _ k_256) x9 h9) d_ValueStream_receiveLoad_29 ?_
    refine xg_13_loads hx hb hts hin_Link hown hK hP (hts _ k_203) (fun _ h9 => h9) d_ValueStream_receiveLoad_32 ?_
    obtain ⟨r1, z1, hc1, h⟩ := obn_e h
    refine q_goi (va_runV (As := []) (rest := [.int (z0.2 1 x1.toNatClampNeg), .ref (ad 32)]) ⟨hx, hb, hml, hown, hts⟩ (c_x_Fifo_take_15 l dC dI cI cZ ad z0 _ hc1 _) (cwV 0 hts (q_goodL _ (q_l4 k_696 k_591 k_592 k_56) k_593) rfl rfl rfl (by decide +kernel) ⟨Nat.le_of_ble_eq_true rfl, Nat.le_of_ble_eq_true rfl⟩) (q_preV qok hKK hP hD (va_recv (ci := 3) (q0 := 15) hK hP rfl rfl)) rfl rfl hl.1 rfl (lv_room (Nat.le_of_ble_eq_true rfl)) d_ValueStream_receiveLoad_35 ⟨Nat.le_refl _, Nat.le_refl _⟩) hD hS hA (fun H locs hP hD hS => ?_)
    obtain ⟨hi, h⟩ := gin_e h
    obtain ⟨z2, e2, h⟩ := bnd_e h
    refine xs_21 hx hb hK hP hD hS hi d_ValueStream_receiveLoad_38 e2 (fun H locs hP hD hS => ?_)
    refine lv_aload_n hx hb d_ValueStream_receiveLoad_39 rfl (lv_at hl 0 rfl) ?_
    refine lv_iload_n hx hb d_ValueStream_receiveLoad_40 rfl (lv_at hl 1 rfl) ?_
    refine lv_iconst (v := 1) hx hb d_ValueStream_receiveLoad_41 (by decide) ?_
    refine lv_iadd hx hb d_ValueStream_receiveLoad_42 ?_
    obtain ⟨r3, z3, hc3, h⟩ := obn_e h
    refine q_goi (va_runU (As := [.int (x1 + 1)]) (rest := []) ⟨hx, hb, hml, hown, hts⟩ (c_x_Stream_leaveFor_31 l dC dI cI cZ ad z2 (x1 + 1) _ hc3 _) (va_cwU 1 hts (q_goodL _ (q_l5 k_697 k_698 k_699 k_567 k_59) k_568) rfl rfl rfl rfl (by decide +kernel) ⟨Nat.le_of_ble_eq_true rfl, Nat.le_of_ble_eq_true rfl⟩) (q_preV qok hKK hP hD (va_recv (ci := 6) (q0 := 31) hK hP rfl rfl)) rfl rfl hl.1 rfl (lv_room (Nat.le_of_ble_eq_true rfl)) d_ValueStream_receiveLoad_43 ⟨Nat.le_refl _, Nat.le_refl _⟩) hD hS hA (fun H locs hP hD hS => ?_)
    exact q_zret hx hb hr hlocks h hP hD hS d_ValueStream_receiveLoad_46
  · replace h := if_t hc h
    refine lv_iconst (v := 0) hx hb d_ValueStream_receiveLoad_13 (by decide) ?_
    exact q_zret hx hb hr hlocks h hP hD hS d_ValueStream_receiveLoad_14
def x_ValueStream_step_31 (z0 : ST) : OR := obn (x_Run_hasEnded_31 z0) (fun r1 z1 => if r1 = 0 then (gin (z1.1 18) 24 (if (z1.2 4 (z1.1 18).toNatClampNeg) = 1 then (gin (z1.1 18) 24 (if (z1.2 0 (z1.1 18).toNatClampNeg) = 4 then (obn (x_ValueStream_receiveLoad_31 z1 (z1.1 18)) (fun r6 z6 => gib r6 (some (r6, z6)))) else (obn (x_ValueStream_doOwn_31 z1 (z1.1 18)) (fun r5 z5 => gib r5 (some (r5, z5)))))) else (obn (x_Program_isBranch_1 z1 (z1.1 18)) (fun r2 z2 => if r2 = 0 then (obn (x_ValueStream_giveStored_31 z2 (z2.1 18)) (fun r3 z3 => gib r3 (some (r3, z3)))) else (obn (x_Stream_followOutcome_31_17 z2 (z2.1 18)) (fun r4 z4 => gib r4 (some (r4, z4)))))))) else (gib 0 (some (0, z1))))
set_option maxRecDepth 100000 in
set_option maxHeartbeats 4000000 in
theorem c_x_ValueStream_step_31 (l : Launch) (dC : Nat → ClassId) (dI : Nat → Nat → Nat) (cI cZ : ClassId) (ad : Nat → Nat) (z0 : ST) (R : Int32 × ST) (h : x_ValueStream_step_31 z0 = some R) : qMi l y_ValueStream_step w_ValueStream_step 4 86 (KX dC dI cI cZ) (dC, dI) q_cl (wX cI cZ ad) [.ref (ad 31)] z0 R := by
  intro sz
  refine Met.ofW (cc := b_ValueStream_step) (maxL := 1) (ret := (some .boolean)) (by decide) rfl ?_
  intro p e s m args below meth c s₁ B hml hv
  obtain ⟨rfl, hsz, hP, hKK, hD0⟩ := hv
  have hx := B.exec
  have hb := B.bytes
  have hr := B.returns
  have hts : ∀ w ∈ q_big, w.before _ s = true := fun w h => atoms_spec (ws := w_ValueStream_step) B.pre w (List.mem_cons_of_mem _ h)
  have hown : s.vm.findClass "SlippedStreams$ValueStream" = some m.cls := findClass_of_methodNamed B.named
  have hlocks := B.notSynchronized
  subst hsz
  have hD := hD0.self (sz := s.heap.size)
  generalize hAe : va_A (wX cI cZ ad z0) s.heap.size = A at hD ⊢
  have hA : ∀ q : Nat, s.heap.size ≤ q → A q := fun q h => by rw [← hAe]; exact Or.inr h
  have hS : va_S A s.heap s.heap [] := va_S.rf
  have hK := hKK.1
  have hl := lv_entry ([.ref (ad 31)]) (n := 1) (Nat.le_of_ble_eq_true rfl)
  rw [lg_entry_eq]
  generalize (lg_sl ([.ref (ad 31)]) ++ List.replicate (1 - (lg_sl ([.ref (ad 31)])).length) Slot.unset).toArray = ls at hl ⊢
  have hl : lv_has ls 1 [(0, .ref (ad 31))] := hl
  unfold x_ValueStream_step_31 at h
  refine lv_aload_n hx hb d_ValueStream_step_0 rfl (lv_at hl 0 rfl) ?_
  obtain ⟨r1, z1, hc1, h⟩ := obn_e h
  refine q_goi (va_runU (As := []) (rest := []) ⟨hx, hb, hml, hown, hts⟩ (c_x_Run_hasEnded_31 l dC dI cI cZ ad z0 _ hc1 _) (va_cwU 0 hts (q_goodL _ (q_l5 k_689 k_690 k_691 k_539 k_58) k_540) rfl rfl rfl rfl (by decide +kernel) ⟨Nat.le_of_ble_eq_true rfl, Nat.le_of_ble_eq_true rfl⟩) (q_preV qok hKK hP hD (va_recv (ci := 6) (q0 := 31) hK hP rfl rfl)) rfl rfl hl.1 rfl (lv_room (Nat.le_of_ble_eq_true rfl)) d_ValueStream_step_1 ⟨Nat.le_refl _, Nat.le_refl _⟩) hD hS hA (fun H locs hP hD hS => ?_)
  refine lv_if_eq (tgt := 9) hx hb d_ValueStream_step_4 (by decide) (fun hc => ?_) (fun hc => ?_)
  · replace h := if_t hc h
    refine lv_aload_n hx hb d_ValueStream_step_9 rfl (lv_at hl 0 rfl) ?_
    refine xg_31_program hx hb hts hin_ValueStream hown hK hP (hts _ k_268) (fun x9 h9 => u_same (hts _ k_269) x9 h9) d_ValueStream_step_10 ?_
    refine xg_1_streams hx hb hts hin_Program hown hK hP (hts _ k_99) (fun _ h9 => h9) d_ValueStream_step_13 ?_
    refine lv_aload_n hx hb d_ValueStream_step_16 rfl (lv_at hl 0 rfl) ?_
    refine xg_31_at hx hb hts hin_ValueStream hown hK hP (hts _ k_292) (fun x9 h9 => u_same (hts _ k_293) x9 h9) d_ValueStream_step_17 ?_
    obtain ⟨hi, h⟩ := gin_e h
    refine xl_4 hx hb hK hP hi d_ValueStream_step_20 ?_
    refine lv_iconst (v := 1) hx hb d_ValueStream_step_21 (by decide) ?_
    refine lv_icmp_ne (tgt := 61) hx hb d_ValueStream_step_22 (by decide) (fun hc => ?_) (fun hc => ?_)
    · replace h := if_f hc h
      refine lv_aload_n hx hb d_ValueStream_step_61 rfl (lv_at hl 0 rfl) ?_
      refine xg_31_program hx hb hts hin_ValueStream hown hK hP (hts _ k_268) (fun x9 h9 => u_same (hts _ k_269) x9 h9) d_ValueStream_step_62 ?_
      refine lv_aload_n hx hb d_ValueStream_step_65 rfl (lv_at hl 0 rfl) ?_
      refine xg_31_at hx hb hts hin_ValueStream hown hK hP (hts _ k_292) (fun x9 h9 => u_same (hts _ k_293) x9 h9) d_ValueStream_step_66 ?_
      obtain ⟨r2, z2, hc2, h⟩ := obn_e h
      refine q_goi (va_runV (As := [.int (z1.1 18)]) (rest := []) ⟨hx, hb, hml, hown, hts⟩ (c_x_Program_isBranch_1 l dC dI cI cZ ad z1 (z1.1 18) _ hc2 _) (cwV 1 hts (q_goodL _ (q_l4 k_704 k_418 k_419 k_54) k_420) rfl rfl rfl (by decide +kernel) ⟨Nat.le_of_ble_eq_true rfl, Nat.le_of_ble_eq_true rfl⟩) (q_preV qok hKK hP hD (va_recv (ci := 1) (q0 := 1) hK hP rfl rfl)) rfl rfl hl.1 rfl (lv_room (Nat.le_of_ble_eq_true rfl)) d_ValueStream_step_69 ⟨Nat.le_refl _, Nat.le_refl _⟩) hD hS hA (fun H locs hP hD hS => ?_)
      refine lv_if_eq (tgt := 93) hx hb d_ValueStream_step_72 (by decide) (fun hc => ?_) (fun hc => ?_)
      · replace h := if_t hc h
        refine lv_aload_n hx hb d_ValueStream_step_93 rfl (lv_at hl 0 rfl) ?_
        refine lv_aload_n hx hb d_ValueStream_step_94 rfl (lv_at hl 0 rfl) ?_
        refine xg_31_at hx hb hts hin_ValueStream hown hK hP (hts _ k_292) (fun x9 h9 => u_same (hts _ k_293) x9 h9) d_ValueStream_step_95 ?_
        obtain ⟨r3, z3, hc3, h⟩ := obn_e h
        refine q_goi (va_runV (As := [.int (z2.1 18)]) (rest := []) ⟨hx, hb, hml, hown, hts⟩ (c_x_ValueStream_giveStored_31 l dC dI cI cZ ad z2 (z2.1 18) _ hc3 _) (cwV 1 hts (q_goodL _ (q_l4 k_720 k_722 k_25 k_61) k_723) rfl rfl rfl (by decide +kernel) ⟨Nat.le_of_ble_eq_true rfl, Nat.le_of_ble_eq_true rfl⟩) (q_preV qok hKK hP hD (va_recv (ci := 6) (q0 := 31) hK hP rfl rfl)) rfl rfl hl.1 rfl (lv_room (Nat.le_of_ble_eq_true rfl)) d_ValueStream_step_98 ⟨Nat.le_refl _, Nat.le_refl _⟩) hD hS hA (fun H locs hP hD hS => ?_)
        exact q_zret hx hb hr hlocks h hP hD hS d_ValueStream_step_101
      · replace h := if_f hc h
        refine lv_aload_n hx hb d_ValueStream_step_75 rfl (lv_at hl 0 rfl) ?_
        refine lv_aload_n hx hb d_ValueStream_step_76 rfl (lv_at hl 0 rfl) ?_
        refine xg_31_at hx hb hts hin_ValueStream hown hK hP (hts _ k_292) (fun x9 h9 => u_same (hts _ k_293) x9 h9) d_ValueStream_step_77 ?_
        refine lv_aload_n hx hb d_ValueStream_step_80 rfl (lv_at hl 0 rfl) ?_
        refine xg_31_link hx hb hts hin_ValueStream hown hK hP (hts _ k_255) (fun x9 h9 => u_same (hts _ k_256) x9 h9) d_ValueStream_step_81 ?_
        refine xg_13_valueOutcomes hx hb hts hin_Link hown hK hP (hts _ k_211) (fun _ h9 => h9) d_ValueStream_step_84 ?_
        obtain ⟨r4, z4, hc4, h⟩ := obn_e h
        refine q_goi (va_runU (As := [.int (z2.1 18), .ref (ad 17)]) (rest := []) ⟨hx, hb, hml, hown, hts⟩ (c_x_Stream_followOutcome_31_17 l dC dI cI cZ ad z2 (z2.1 18) _ hc4 _) (va_cwU 2 hts (q_goodL _ (q_l5 k_717 k_718 k_719 k_652 k_59) k_653) rfl rfl rfl rfl (by decide +kernel) ⟨Nat.le_of_ble_eq_true rfl, Nat.le_of_ble_eq_true rfl⟩) (q_preV qok hKK hP hD (va_recv (ci := 6) (q0 := 31) hK hP rfl rfl)) rfl rfl hl.1 rfl (lv_room (Nat.le_of_ble_eq_true rfl)) d_ValueStream_step_87 ⟨Nat.le_refl _, Nat.le_refl _⟩) hD hS hA (fun H locs hP hD hS => ?_)
        refine lv_goto (tgt := 101) hx hb d_ValueStream_step_90 (by decide) ?_
        exact q_zret hx hb hr hlocks h hP hD hS d_ValueStream_step_101
    · replace h := if_t hc h
      refine lv_aload_n hx hb d_ValueStream_step_25 rfl (lv_at hl 0 rfl) ?_
      refine xg_31_program hx hb hts hin_ValueStream hown hK hP (hts _ k_268) (fun x9 h9 => u_same (hts _ k_269) x9 h9) d_ValueStream_step_26 ?_
      refine xg_1_kinds hx hb hts hin_Program hown hK hP (hts _ k_84) (fun _ h9 => h9) d_ValueStream_step_29 ?_
      refine lv_aload_n hx hb d_ValueStream_step_32 rfl (lv_at hl 0 rfl) ?_
      refine xg_31_at hx hb hts hin_ValueStream hown hK hP (hts _ k_292) (fun x9 h9 => u_same (hts _ k_293) x9 h9) d_ValueStream_step_33 ?_
      obtain ⟨hi, h⟩ := gin_e h
      refine xl_0 hx hb hK hP hi d_ValueStream_step_36 ?_
      refine lv_iconst (v := 4) hx hb d_ValueStream_step_37 (by decide) ?_
      refine lv_icmp_ne (tgt := 52) hx hb d_ValueStream_step_38 (by decide) (fun hc => ?_) (fun hc => ?_)
      · replace h := if_f hc h
        refine lv_aload_n hx hb d_ValueStream_step_52 rfl (lv_at hl 0 rfl) ?_
        refine lv_aload_n hx hb d_ValueStream_step_53 rfl (lv_at hl 0 rfl) ?_
        refine xg_31_at hx hb hts hin_ValueStream hown hK hP (hts _ k_292) (fun x9 h9 => u_same (hts _ k_293) x9 h9) d_ValueStream_step_54 ?_
        obtain ⟨r5, z5, hc5, h⟩ := obn_e h
        refine q_goi (va_runV (As := [.int (z1.1 18)]) (rest := []) ⟨hx, hb, hml, hown, hts⟩ (c_x_ValueStream_doOwn_31 l dC dI cI cZ ad z1 (z1.1 18) _ hc5 _) (cwV 1 hts (q_goodL _ (q_l4 k_700 k_702 k_23 k_61) k_703) rfl rfl rfl (by decide +kernel) ⟨Nat.le_of_ble_eq_true rfl, Nat.le_of_ble_eq_true rfl⟩) (q_preV qok hKK hP hD (va_recv (ci := 6) (q0 := 31) hK hP rfl rfl)) rfl rfl hl.1 rfl (lv_room (Nat.le_of_ble_eq_true rfl)) d_ValueStream_step_57 ⟨Nat.le_refl _, Nat.le_refl _⟩) hD hS hA (fun H locs hP hD hS => ?_)
        exact q_zret hx hb hr hlocks h hP hD hS d_ValueStream_step_60
      · replace h := if_t hc h
        refine lv_aload_n hx hb d_ValueStream_step_41 rfl (lv_at hl 0 rfl) ?_
        refine lv_aload_n hx hb d_ValueStream_step_42 rfl (lv_at hl 0 rfl) ?_
        refine xg_31_at hx hb hts hin_ValueStream hown hK hP (hts _ k_292) (fun x9 h9 => u_same (hts _ k_293) x9 h9) d_ValueStream_step_43 ?_
        obtain ⟨r6, z6, hc6, h⟩ := obn_e h
        refine q_goi (va_runV (As := [.int (z1.1 18)]) (rest := []) ⟨hx, hb, hml, hown, hts⟩ (c_x_ValueStream_receiveLoad_31 l dC dI cI cZ ad z1 (z1.1 18) _ hc6 _) (cwV 1 hts (q_goodL _ (q_l4 k_692 k_694 k_22 k_61) k_695) rfl rfl rfl (by decide +kernel) ⟨Nat.le_of_ble_eq_true rfl, Nat.le_of_ble_eq_true rfl⟩) (q_preV qok hKK hP hD (va_recv (ci := 6) (q0 := 31) hK hP rfl rfl)) rfl rfl hl.1 rfl (lv_room (Nat.le_of_ble_eq_true rfl)) d_ValueStream_step_46 ⟨Nat.le_refl _, Nat.le_refl _⟩) hD hS hA (fun H locs hP hD hS => ?_)
        refine lv_goto (tgt := 60) hx hb d_ValueStream_step_49 (by decide) ?_
        exact q_zret hx hb hr hlocks h hP hD hS d_ValueStream_step_60
  · replace h := if_f hc h
    refine lv_iconst (v := 0) hx hb d_ValueStream_step_7 (by decide) ?_
    exact q_zret hx hb hr hlocks h hP hD hS d_ValueStream_step_8
def x_Run_advance_31_g0 (k : Nat → ST → Int32 → Int32 → OR) (z0 : ST) (y1 y2 : Int32) : OR := k 1 z0 y1 0
def x_Run_advance_31_g2 (k : Nat → ST → Int32 → Int32 → OR) (z0 : ST) (y1 y2 : Int32) : OR := if y1 ≤ y2 then (some (y2, z0)) else (obn (x_ValueStream_step_31 z0) (fun r1 z1 => if r1 = 0 then (some (y2, z1)) else (k 1 z1 y1 (y2 + 1))))
def x_Run_advance_31_g (k : Nat → ST → Int32 → Int32 → OR) (n : Nat) : ST → Int32 → Int32 → OR := match n with
  | 0 => x_Run_advance_31_g0 k
  | 1 => x_Run_advance_31_g2 k
  | _ => fun _ _ _ => none
def x_Run_advance_31_f : Nat → Nat → ST → Int32 → Int32 → OR
  | 0 => fun _ _ _ _ => none
  | n + 1 => x_Run_advance_31_g (x_Run_advance_31_f n)
def x_Run_advance_31 (z0 : ST) (x1 : Int32) : OR := x_Run_advance_31_f 4000 0 z0 x1 0
set_option maxRecDepth 100000 in
set_option maxHeartbeats 4000000 in
theorem c_x_Run_advance_31 (l : Launch) (dC : Nat → ClassId) (dI : Nat → Nat → Nat) (cI cZ : ClassId) (ad : Nat → Nat) (z0 : ST) (x1 : Int32) (R : Int32 × ST) (h : x_Run_advance_31 z0 x1 = some R) : qMi l y_Run_advance w_Run_advance 5 106 (KX dC dI cI cZ) (dC, dI) q_cl (wX cI cZ ad) [.ref (ad 31), .int x1] z0 R := by
  intro sz
  refine Met.ofW (cc := b_Run_advance) (maxL := 3) (ret := (some .int)) (by decide) rfl ?_
  intro p e s m args below meth c s₁ B hml hv
  obtain ⟨rfl, hsz, hP, hKK, hD0⟩ := hv
  have hx := B.exec
  have hb := B.bytes
  have hr := B.returns
  have hts : ∀ w ∈ q_big, w.before _ s = true := fun w h => atoms_spec (ws := w_Run_advance) B.pre w (List.mem_cons_of_mem _ h)
  have hown : s.vm.findClass "SlippedStreams$Run" = some m.cls := findClass_of_methodNamed B.named
  have hlocks := B.notSynchronized
  subst hsz
  have hD := hD0.self (sz := s.heap.size)
  generalize hAe : va_A (wX cI cZ ad z0) s.heap.size = A at hD ⊢
  have hA : ∀ q : Nat, s.heap.size ≤ q → A q := fun q h => by rw [← hAe]; exact Or.inr h
  have hS : va_S A s.heap s.heap [] := va_S.rf
  have hK := hKK.1
  have hl := lv_entry ([.ref (ad 31), .int x1]) (n := 3) (Nat.le_of_ble_eq_true rfl)
  rw [lg_entry_eq]
  generalize (lg_sl ([.ref (ad 31), .int x1]) ++ List.replicate (3 - (lg_sl ([.ref (ad 31), .int x1])).length) Slot.unset).toArray = ls at hl ⊢
  have hl : lv_has ls 3 [(0, .ref (ad 31)), (1, .int x1)] := hl
  have key : ∀ n : Nat, (∀ (z0 : ST) (y1 y2 : Int32) (H : Heap) (locs : List Loc) (ls : Array Slot), x_Run_advance_31_f n 0 z0 y1 y2 = some R → va_P (dC, dI) q_cl (wX cI cZ ad z0) H → va_D A (wX cI cZ ad z0) → va_S A s.heap H locs → lv_has ls 3 [(0, .ref (ad 31)), (1, .int y1)] → qWi p l e w_Run_advance 5 106 s m [.ref (ad 31), .int x1] below meth c (dC, dI) q_cl (wX cI cZ ad) A R H locs (F0 m 0 ls [])) ∧ (∀ (z0 : ST) (y1 y2 : Int32) (H : Heap) (locs : List Loc) (ls : Array Slot), x_Run_advance_31_f n 1 z0 y1 y2 = some R → va_P (dC, dI) q_cl (wX cI cZ ad z0) H → va_D A (wX cI cZ ad z0) → va_S A s.heap H locs → lv_has ls 3 [(0, .ref (ad 31)), (1, .int y1), (2, .int y2)] → qWi p l e w_Run_advance 5 106 s m [.ref (ad 31), .int x1] below meth c (dC, dI) q_cl (wX cI cZ ad) A R H locs (F0 m 2 ls [])) := by
    intro n
    induction n with
    | zero => exact ⟨fun z0 y1 y2 H locs ls h hP hD hS hl => (by cases h), fun z0 y1 y2 H locs ls h hP hD hS hl => (by cases h)⟩
    | succ n ih =>
      obtain ⟨jp_0, jp_2⟩ := ih
      refine ⟨?_, ?_⟩
      · intro z0 y1 y2 H locs ls h hP hD hS hl
        replace h : x_Run_advance_31_g0 (x_Run_advance_31_f n) z0 y1 y2 = some R := h
        unfold x_Run_advance_31_g0 at h
        refine lv_iconst (v := 0) hx hb d_Run_advance_0 (by decide) ?_
        refine lv_istore_n (lv' := [(2, .int 0), (0, .ref (ad 31)), (1, .int y1)]) hx hb d_Run_advance_1 rfl hl (by decide) rfl (fun ls hl => ?_)
        exact jp_2 z0 y1 0 _ _ _ h hP hD hS (lv_sub hl [1, 2, 0] rfl)
      · intro z0 y1 y2 H locs ls h hP hD hS hl
        replace h : x_Run_advance_31_g2 (x_Run_advance_31_f n) z0 y1 y2 = some R := h
        unfold x_Run_advance_31_g2 at h
        refine lv_iload_n hx hb d_Run_advance_2 rfl (lv_at hl 2 rfl) ?_
        refine lv_iload_n hx hb d_Run_advance_3 rfl (lv_at hl 1 rfl) ?_
        refine lv_icmp_ge (tgt := 20) hx hb d_Run_advance_4 (by decide) (fun hc => ?_) (fun hc => ?_)
        · replace h := if_t hc h
          refine lv_iload_n hx hb d_Run_advance_20 rfl (lv_at hl 2 rfl) ?_
          exact q_iret hx hb hr hlocks h hP hD hS d_Run_advance_21
        · replace h := if_f hc h
          refine lv_aload_n hx hb d_Run_advance_7 rfl (lv_at hl 0 rfl) ?_
          obtain ⟨r1, z1, hc1, h⟩ := obn_e h
          refine q_goi (va_runU (As := []) (rest := []) ⟨hx, hb, hml, hown, hts⟩ (c_x_ValueStream_step_31 l dC dI cI cZ ad z0 _ hc1 _) (va_cwA 0 hts (q_goodL _ (q_l5 k_529 k_531 k_686 k_687 k_61) k_688) rfl rfl rfl hKK.2.2 (by decide +kernel) ⟨Nat.le_of_ble_eq_true rfl, Nat.le_of_ble_eq_true rfl⟩) (q_preV qok hKK hP hD (va_recv (ci := 6) (q0 := 31) hK hP rfl rfl)) rfl rfl hl.1 rfl (lv_room (Nat.le_of_ble_eq_true rfl)) d_Run_advance_8 ⟨Nat.le_refl _, Nat.le_refl _⟩) hD hS hA (fun H locs hP hD hS => ?_)
          refine lv_if_eq (tgt := 20) hx hb d_Run_advance_11 (by decide) (fun hc => ?_) (fun hc => ?_)
          · replace h := if_t hc h
            refine lv_iload_n hx hb d_Run_advance_20 rfl (lv_at hl 2 rfl) ?_
            exact q_iret hx hb hr hlocks h hP hD hS d_Run_advance_21
          · replace h := if_f hc h
            refine lv_iinc (k := 2) (v := y2 + 1) (lv' := [(2, .int (y2 + 1)), (0, .ref (ad 31)), (1, .int y1)]) hx hb d_Run_advance_14 hl rfl rfl (by decide) rfl (fun ls hl => ?_)
            refine lv_goto (tgt := 2) hx hb d_Run_advance_17 (by decide) ?_
            exact jp_2 z1 y1 (y2 + 1) _ _ _ h hP hD hS (lv_sub hl [1, 2, 0] rfl)
  exact (key 4000).1 z0 x1 0 _ _ _ h hP hD hS (lv_sub hl [0, 1] rfl)
def x_value (z0 : ST) (x1 : Int32) : OR := obn (x_isMoveCount z0 x1) (fun r1 z1 => if r1 = 0 then (some ((-1), z1)) else (obn (x_Run_advance_31 z1 x1) (fun r2 z2 => some (r2, z2))))
set_option maxRecDepth 100000 in
set_option maxHeartbeats 4000000 in
theorem c_x_value (l : Launch) (dC : Nat → ClassId) (dI : Nat → Nat → Nat) (cI cZ : ClassId) (ad : Nat → Nat) (z0 : ST) (x1 : Int32) (R : Int32 × ST) (h : x_value z0 x1 = some R) : qMi l y_SlippedStreams_value w_SlippedStreams_value 6 128 (KX dC dI cI cZ) (dC, dI) q_cl (wX cI cZ ad) [.ref (ad 0), .int x1] z0 R := by
  intro sz
  refine Met.ofW (cc := b_SlippedStreams_value) (maxL := 2) (ret := (some .int)) (by decide) rfl ?_
  intro p e s m args below meth c s₁ B hml hv
  obtain ⟨rfl, hsz, hP, hKK, hD0⟩ := hv
  have hx := B.exec
  have hb := B.bytes
  have hr := B.returns
  have hts : ∀ w ∈ q_big, w.before _ s = true := fun w h => atoms_spec (ws := w_SlippedStreams_value) B.pre w (List.mem_cons_of_mem _ h)
  have hown : s.vm.findClass "SlippedStreams" = some m.cls := findClass_of_methodNamed B.named
  have hlocks := B.notSynchronized
  subst hsz
  have hD := hD0.self (sz := s.heap.size)
  generalize hAe : va_A (wX cI cZ ad z0) s.heap.size = A at hD ⊢
  have hA : ∀ q : Nat, s.heap.size ≤ q → A q := fun q h => by rw [← hAe]; exact Or.inr h
  have hS : va_S A s.heap s.heap [] := va_S.rf
  have hK := hKK.1
  have hl := lv_entry ([.ref (ad 0), .int x1]) (n := 2) (Nat.le_of_ble_eq_true rfl)
  rw [lg_entry_eq]
  generalize (lg_sl ([.ref (ad 0), .int x1]) ++ List.replicate (2 - (lg_sl ([.ref (ad 0), .int x1])).length) Slot.unset).toArray = ls at hl ⊢
  have hl : lv_has ls 2 [(0, .ref (ad 0)), (1, .int x1)] := hl
  unfold x_value at h
  refine lv_iload_n hx hb d_SlippedStreams_value_0 rfl (lv_at hl 1 rfl) ?_
  obtain ⟨r1, z1, hc1, h⟩ := obn_e h
  refine q_goi (va_runS (As := [.int x1]) (rest := []) ⟨hx, hb, hml, hown, hts⟩ (c_x_isMoveCount l dC dI cI cZ ad z0 x1 _ hc1 _) (va_cwS 1 hts (q_goodL _ (q_l3 k_520 k_521 k_53) k_522) rfl rfl rfl (by decide +kernel) ⟨Nat.le_of_ble_eq_true rfl, Nat.le_of_ble_eq_true rfl⟩) (q_preS qok hKK hP hD) rfl rfl hl.1 rfl (lv_room (Nat.le_of_ble_eq_true rfl)) d_SlippedStreams_value_1 ⟨Nat.le_refl _, Nat.le_refl _⟩) hD hS hA (fun H locs hP hD hS => ?_)
  refine lv_if_eq (tgt := 18) hx hb d_SlippedStreams_value_4 (by decide) (fun hc => ?_) (fun hc => ?_)
  · replace h := if_t hc h
    refine lv_iconst (v := (-1)) hx hb d_SlippedStreams_value_18 (by decide) ?_
    exact q_iret hx hb hr hlocks h hP hD hS d_SlippedStreams_value_19
  · replace h := if_f hc h
    refine lv_aload_n hx hb d_SlippedStreams_value_7 rfl (lv_at hl 0 rfl) ?_
    refine xg_0_valueStream hx hb hts hin_SlippedStreams hown hK hP (hts _ k_365) (fun _ h9 => h9) d_SlippedStreams_value_8 ?_
    refine lv_iload_n hx hb d_SlippedStreams_value_11 rfl (lv_at hl 1 rfl) ?_
    obtain ⟨r2, z2, hc2, h⟩ := obn_e h
    refine q_goi (va_runU (As := [.int x1]) (rest := []) ⟨hx, hb, hml, hown, hts⟩ (c_x_Run_advance_31 l dC dI cI cZ ad z1 x1 _ hc2 _) (va_cwU 1 hts (q_goodL _ (q_l5 k_738 k_739 k_740 k_527 k_58) k_528) rfl rfl rfl rfl (by decide +kernel) ⟨Nat.le_of_ble_eq_true rfl, Nat.le_of_ble_eq_true rfl⟩) (q_preV qok hKK hP hD (va_recv (ci := 6) (q0 := 31) hK hP rfl rfl)) rfl rfl hl.1 rfl (lv_room (Nat.le_of_ble_eq_true rfl)) d_SlippedStreams_value_12 ⟨Nat.le_refl _, Nat.le_refl _⟩) hD hS hA (fun H locs hP hD hS => ?_)
    refine lv_goto (tgt := 19) hx hb d_SlippedStreams_value_15 (by decide) ?_
    exact q_iret hx hb hr hlocks h hP hD hS d_SlippedStreams_value_19
def x_both_g0 (k : Nat → ST → Int32 → Int32 → Int32 → OR) (z0 : ST) (y1 y2 y3 : Int32) : OR := obn (x_isMoveCount z0 y1) (fun r1 z1 => if r1 = 0 then (some ((-1), z1)) else (k 1 z1 y1 0 0))
def x_both_g13 (k : Nat → ST → Int32 → Int32 → Int32 → OR) (z0 : ST) (y1 y2 y3 : Int32) : OR := if y1 ≤ y3 then (some (y2, z0)) else (obn (x_AddressStream_step_29 z0) (fun r2 z2 => if r2 = 0 then (obn (x_noteLoss z2) (fun r3 z3 => k 2 z3 y1 y2 y3)) else (k 2 z2 y1 (y2 + 1) y3)))
def x_both_g38 (k : Nat → ST → Int32 → Int32 → Int32 → OR) (z0 : ST) (y1 y2 y3 : Int32) : OR := obn (x_ValueStream_step_31 z0) (fun r4 z4 => if r4 = 0 then (k 3 z4 y1 y2 y3) else (k 3 z4 y1 (y2 + 1) y3))
def x_both_g51 (k : Nat → ST → Int32 → Int32 → Int32 → OR) (z0 : ST) (y1 y2 y3 : Int32) : OR := k 1 z0 y1 y2 (y3 + 1)
def x_both_g (k : Nat → ST → Int32 → Int32 → Int32 → OR) (n : Nat) : ST → Int32 → Int32 → Int32 → OR := match n with
  | 0 => x_both_g0 k
  | 1 => x_both_g13 k
  | 2 => x_both_g38 k
  | 3 => x_both_g51 k
  | _ => fun _ _ _ _ => none
def x_both_f : Nat → Nat → ST → Int32 → Int32 → Int32 → OR
  | 0 => fun _ _ _ _ _ => none
  | n + 1 => x_both_g (x_both_f n)
def x_both (z0 : ST) (x1 : Int32) : OR := x_both_f 4000 0 z0 x1 0 0
set_option maxRecDepth 100000 in
set_option maxHeartbeats 4000000 in
theorem c_x_both (l : Launch) (dC : Nat → ClassId) (dI : Nat → Nat → Nat) (cI cZ : ClassId) (ad : Nat → Nat) (z0 : ST) (x1 : Int32) (R : Int32 × ST) (h : x_both z0 x1 = some R) : qMi l y_SlippedStreams_both w_SlippedStreams_both 6 129 (KX dC dI cI cZ) (dC, dI) q_cl (wX cI cZ ad) [.ref (ad 0), .int x1] z0 R := by
  intro sz
  refine Met.ofW (cc := b_SlippedStreams_both) (maxL := 4) (ret := (some .int)) (by decide) rfl ?_
  intro p e s m args below meth c s₁ B hml hv
  obtain ⟨rfl, hsz, hP, hKK, hD0⟩ := hv
  have hx := B.exec
  have hb := B.bytes
  have hr := B.returns
  have hts : ∀ w ∈ q_big, w.before _ s = true := fun w h => atoms_spec (ws := w_SlippedStreams_both) B.pre w (List.mem_cons_of_mem _ h)
  have hown : s.vm.findClass "SlippedStreams" = some m.cls := findClass_of_methodNamed B.named
  have hlocks := B.notSynchronized
  subst hsz
  have hD := hD0.self (sz := s.heap.size)
  generalize hAe : va_A (wX cI cZ ad z0) s.heap.size = A at hD ⊢
  have hA : ∀ q : Nat, s.heap.size ≤ q → A q := fun q h => by rw [← hAe]; exact Or.inr h
  have hS : va_S A s.heap s.heap [] := va_S.rf
  have hK := hKK.1
  have hl := lv_entry ([.ref (ad 0), .int x1]) (n := 4) (Nat.le_of_ble_eq_true rfl)
  rw [lg_entry_eq]
  generalize (lg_sl ([.ref (ad 0), .int x1]) ++ List.replicate (4 - (lg_sl ([.ref (ad 0), .int x1])).length) Slot.unset).toArray = ls at hl ⊢
  have hl : lv_has ls 4 [(0, .ref (ad 0)), (1, .int x1)] := hl
  have key : ∀ n : Nat, (∀ (z0 : ST) (y1 y2 y3 : Int32) (H : Heap) (locs : List Loc) (ls : Array Slot), x_both_f n 0 z0 y1 y2 y3 = some R → va_P (dC, dI) q_cl (wX cI cZ ad z0) H → va_D A (wX cI cZ ad z0) → va_S A s.heap H locs → lv_has ls 4 [(0, .ref (ad 0)), (1, .int y1)] → qWi p l e w_SlippedStreams_both 6 129 s m [.ref (ad 0), .int x1] below meth c (dC, dI) q_cl (wX cI cZ ad) A R H locs (F0 m 0 ls [])) ∧ (∀ (z0 : ST) (y1 y2 y3 : Int32) (H : Heap) (locs : List Loc) (ls : Array Slot), x_both_f n 1 z0 y1 y2 y3 = some R → va_P (dC, dI) q_cl (wX cI cZ ad z0) H → va_D A (wX cI cZ ad z0) → va_S A s.heap H locs → lv_has ls 4 [(0, .ref (ad 0)), (1, .int y1), (2, .int y2), (3, .int y3)] → qWi p l e w_SlippedStreams_both 6 129 s m [.ref (ad 0), .int x1] below meth c (dC, dI) q_cl (wX cI cZ ad) A R H locs (F0 m 13 ls [])) ∧ (∀ (z0 : ST) (y1 y2 y3 : Int32) (H : Heap) (locs : List Loc) (ls : Array Slot), x_both_f n 2 z0 y1 y2 y3 = some R → va_P (dC, dI) q_cl (wX cI cZ ad z0) H → va_D A (wX cI cZ ad z0) → va_S A s.heap H locs → lv_has ls 4 [(0, .ref (ad 0)), (1, .int y1), (2, .int y2), (3, .int y3)] → qWi p l e w_SlippedStreams_both 6 129 s m [.ref (ad 0), .int x1] below meth c (dC, dI) q_cl (wX cI cZ ad) A R H locs (F0 m 38 ls [])) ∧ (∀ (z0 : ST) (y1 y2 y3 : Int32) (H : Heap) (locs : List Loc) (ls : Array Slot), x_both_f n 3 z0 y1 y2 y3 = some R → va_P (dC, dI) q_cl (wX cI cZ ad z0) H → va_D A (wX cI cZ ad z0) → va_S A s.heap H locs → lv_has ls 4 [(0, .ref (ad 0)), (1, .int y1), (2, .int y2), (3, .int y3)] → qWi p l e w_SlippedStreams_both 6 129 s m [.ref (ad 0), .int x1] below meth c (dC, dI) q_cl (wX cI cZ ad) A R H locs (F0 m 51 ls [])) := by
    intro n
    induction n with
    | zero => exact ⟨fun z0 y1 y2 y3 H locs ls h hP hD hS hl => (by cases h), fun z0 y1 y2 y3 H locs ls h hP hD hS hl => (by cases h), fun z0 y1 y2 y3 H locs ls h hP hD hS hl => (by cases h), fun z0 y1 y2 y3 H locs ls h hP hD hS hl => (by cases h)⟩
    | succ n ih =>
      obtain ⟨jp_0, jp_13, jp_38, jp_51⟩ := ih
      refine ⟨?_, ?_, ?_, ?_⟩
      · intro z0 y1 y2 y3 H locs ls h hP hD hS hl
        replace h : x_both_g0 (x_both_f n) z0 y1 y2 y3 = some R := h
        unfold x_both_g0 at h
        refine lv_iload_n hx hb d_SlippedStreams_both_0 rfl (lv_at hl 1 rfl) ?_
        obtain ⟨r1, z1, hc1, h⟩ := obn_e h
        refine q_goi (va_runS (As := [.int y1]) (rest := []) ⟨hx, hb, hml, hown, hts⟩ (c_x_isMoveCount l dC dI cI cZ ad z0 y1 _ hc1 _) (va_cwS 1 hts (q_goodL _ (q_l3 k_520 k_521 k_53) k_522) rfl rfl rfl (by decide +kernel) ⟨Nat.le_of_ble_eq_true rfl, Nat.le_of_ble_eq_true rfl⟩) (q_preS qok hKK hP hD) rfl rfl hl.1 rfl (lv_room (Nat.le_of_ble_eq_true rfl)) d_SlippedStreams_both_1 ⟨Nat.le_refl _, Nat.le_refl _⟩) hD hS hA (fun H locs hP hD hS => ?_)
        refine lv_if_ne (tgt := 9) hx hb d_SlippedStreams_both_4 (by decide) (fun hc => ?_) (fun hc => ?_)
        · replace h := if_f hc h
          refine lv_iconst (v := 0) hx hb d_SlippedStreams_both_9 (by decide) ?_
          refine lv_istore_n (lv' := [(2, .int 0), (0, .ref (ad 0)), (1, .int y1)]) hx hb d_SlippedStreams_both_10 rfl hl (by decide) rfl (fun ls hl => ?_)
          refine lv_iconst (v := 0) hx hb d_SlippedStreams_both_11 (by decide) ?_
          refine lv_istore_n (lv' := [(3, .int 0), (2, .int 0), (0, .ref (ad 0)), (1, .int y1)]) hx hb d_SlippedStreams_both_12 rfl hl (by decide) rfl (fun ls hl => ?_)
          exact jp_13 z1 y1 0 0 _ _ _ h hP hD hS (lv_sub hl [2, 3, 1, 0] rfl)
        · replace h := if_t hc h
          refine lv_iconst (v := (-1)) hx hb d_SlippedStreams_both_7 (by decide) ?_
          exact q_iret hx hb hr hlocks h hP hD hS d_SlippedStreams_both_8
      · intro z0 y1 y2 y3 H locs ls h hP hD hS hl
        replace h : x_both_g13 (x_both_f n) z0 y1 y2 y3 = some R := h
        unfold x_both_g13 at h
        refine lv_iload_n hx hb d_SlippedStreams_both_13 rfl (lv_at hl 3 rfl) ?_
        refine lv_iload_n hx hb d_SlippedStreams_both_14 rfl (lv_at hl 1 rfl) ?_
        refine lv_icmp_ge (tgt := 57) hx hb d_SlippedStreams_both_15 (by decide) (fun hc => ?_) (fun hc => ?_)
        · replace h := if_t hc h
          refine lv_iload_n hx hb d_SlippedStreams_both_57 rfl (lv_at hl 2 rfl) ?_
          exact q_iret hx hb hr hlocks h hP hD hS d_SlippedStreams_both_58
        · replace h := if_f hc h
          refine lv_aload_n hx hb d_SlippedStreams_both_18 rfl (lv_at hl 0 rfl) ?_
          refine xg_0_addressStream hx hb hts hin_SlippedStreams hown hK hP (hts _ k_364) (fun _ h9 => h9) d_SlippedStreams_both_19 ?_
          obtain ⟨r2, z2, hc2, h⟩ := obn_e h
          refine q_goi (va_runV (As := []) (rest := []) ⟨hx, hb, hml, hown, hts⟩ (c_x_AddressStream_step_29 l dC dI cI cZ ad z0 _ hc2 _) (cwV 0 hts (q_goodL _ (q_l4 k_745 k_533 k_1089 k_60) k_534) rfl rfl rfl (by decide +kernel) ⟨Nat.le_of_ble_eq_true rfl, Nat.le_of_ble_eq_true rfl⟩) (q_preV qok hKK hP hD (va_recv (ci := 5) (q0 := 29) hK hP rfl rfl)) rfl rfl hl.1 rfl (lv_room (Nat.le_of_ble_eq_true rfl)) d_SlippedStreams_both_22 ⟨Nat.le_refl _, Nat.le_refl _⟩) hD hS hA (fun H locs hP hD hS => ?_)
          refine lv_if_eq (tgt := 34) hx hb d_SlippedStreams_both_25 (by decide) (fun hc => ?_) (fun hc => ?_)
          · replace h := if_t hc h
            refine lv_aload_n hx hb d_SlippedStreams_both_34 rfl (lv_at hl 0 rfl) ?_
            obtain ⟨r3, z3, hc3, h⟩ := obn_e h
            refine q_gov (va_runV (As := []) (rest := []) ⟨hx, hb, hml, hown, hts⟩ (c_x_noteLoss l dC dI cI cZ ad z2 _ hc3 _) (cwV 0 hts (q_goodL _ (q_l4 k_729 k_731 k_26 k_53) k_732) rfl rfl rfl (by decide +kernel) ⟨Nat.le_of_ble_eq_true rfl, Nat.le_of_ble_eq_true rfl⟩) (q_preV qok hKK hP hD (va_recv (ci := 0) (q0 := 0) hK hP rfl rfl)) rfl rfl hl.1 rfl (lv_room (Nat.le_of_ble_eq_true rfl)) d_SlippedStreams_both_35 ⟨Nat.le_refl _, Nat.le_refl _⟩) hD hS hA (fun H locs hP hD hS => ?_)
            exact jp_38 z3 y1 y2 y3 _ _ _ h hP hD hS (lv_sub hl [0, 1, 2, 3] rfl)
          · replace h := if_f hc h
            refine lv_iinc (k := 2) (v := y2 + 1) (lv' := [(2, .int (y2 + 1)), (0, .ref (ad 0)), (1, .int y1), (3, .int y3)]) hx hb d_SlippedStreams_both_28 hl rfl rfl (by decide) rfl (fun ls hl => ?_)
            refine lv_goto (tgt := 38) hx hb d_SlippedStreams_both_31 (by decide) ?_
            exact jp_38 z2 y1 (y2 + 1) y3 _ _ _ h hP hD hS (lv_sub hl [1, 2, 0, 3] rfl)
      · intro z0 y1 y2 y3 H locs ls h hP hD hS hl
        replace h : x_both_g38 (x_both_f n) z0 y1 y2 y3 = some R := h
        unfold x_both_g38 at h
        refine lv_aload_n hx hb d_SlippedStreams_both_38 rfl (lv_at hl 0 rfl) ?_
        refine xg_0_valueStream hx hb hts hin_SlippedStreams hown hK hP (hts _ k_365) (fun _ h9 => h9) d_SlippedStreams_both_39 ?_
        obtain ⟨r4, z4, hc4, h⟩ := obn_e h
        refine q_goi (va_runV (As := []) (rest := []) ⟨hx, hb, hml, hown, hts⟩ (c_x_ValueStream_step_31 l dC dI cI cZ ad z0 _ hc4 _) (cwV 0 hts (q_goodL _ (q_l4 k_746 k_687 k_1090 k_61) k_688) rfl rfl rfl (by decide +kernel) ⟨Nat.le_of_ble_eq_true rfl, Nat.le_of_ble_eq_true rfl⟩) (q_preV qok hKK hP hD (va_recv (ci := 6) (q0 := 31) hK hP rfl rfl)) rfl rfl hl.1 rfl (lv_room (Nat.le_of_ble_eq_true rfl)) d_SlippedStreams_both_42 ⟨Nat.le_refl _, Nat.le_refl _⟩) hD hS hA (fun H locs hP hD hS => ?_)
        refine lv_if_eq (tgt := 51) hx hb d_SlippedStreams_both_45 (by decide) (fun hc => ?_) (fun hc => ?_)
        · replace h := if_t hc h
          exact jp_51 z4 y1 y2 y3 _ _ _ h hP hD hS (lv_sub hl [0, 1, 2, 3] rfl)
        · replace h := if_f hc h
          refine lv_iinc (k := 2) (v := y2 + 1) (lv' := [(2, .int (y2 + 1)), (0, .ref (ad 0)), (1, .int y1), (3, .int y3)]) hx hb d_SlippedStreams_both_48 hl rfl rfl (by decide) rfl (fun ls hl => ?_)
          exact jp_51 z4 y1 (y2 + 1) y3 _ _ _ h hP hD hS (lv_sub hl [1, 2, 0, 3] rfl)
      · intro z0 y1 y2 y3 H locs ls h hP hD hS hl
        replace h : x_both_g51 (x_both_f n) z0 y1 y2 y3 = some R := h
        unfold x_both_g51 at h
        refine lv_iinc (k := 3) (v := y3 + 1) (lv' := [(3, .int (y3 + 1)), (0, .ref (ad 0)), (1, .int y1), (2, .int y2)]) hx hb d_SlippedStreams_both_51 hl rfl rfl (by decide) rfl (fun ls hl => ?_)
        refine lv_goto (tgt := 13) hx hb d_SlippedStreams_both_54 (by decide) ?_
        exact jp_13 z0 y1 y2 (y3 + 1) _ _ _ h hP hD hS (lv_sub hl [1, 2, 3, 0] rfl)
  exact (key 4000).1 z0 x1 0 0 _ _ _ h hP hD hS (lv_sub hl [0, 1] rfl)
def x_Run_position_35 (z0 : ST) : OR := some (if (z0.1 1) < (z0.1 21) then z0.1 1 else z0.1 21, z0)
set_option maxRecDepth 100000 in
set_option maxHeartbeats 4000000 in
theorem c_x_Run_position_35 (l : Launch) (dC : Nat → ClassId) (dI : Nat → Nat → Nat) (cI cZ : ClassId) (ad : Nat → Nat) (z0 : ST) (R : Int32 × ST) (h : x_Run_position_35 z0 = some R) : qMi l y_Run_position w_Run_position 1 21 (KX dC dI cI cZ) (dC, dI) q_cl (wX cI cZ ad) [.ref (ad 35)] z0 R := by
  intro sz
  refine Met.ofW (cc := b_Run_position) (maxL := 1) (ret := (some .int)) (by decide) rfl ?_
  intro p e s m args below meth c s₁ B hml hv
  obtain ⟨rfl, hsz, hP, hKK, hD0⟩ := hv
  have hx := B.exec
  have hb := B.bytes
  have hr := B.returns
  have hts : ∀ w ∈ q_big, w.before _ s = true := fun w h => atoms_spec (ws := w_Run_position) B.pre w (List.mem_cons_of_mem _ h)
  have hown : s.vm.findClass "SlippedStreams$Run" = some m.cls := findClass_of_methodNamed B.named
  have hlocks := B.notSynchronized
  subst hsz
  have hD := hD0.self (sz := s.heap.size)
  generalize hAe : va_A (wX cI cZ ad z0) s.heap.size = A at hD ⊢
  have hA : ∀ q : Nat, s.heap.size ≤ q → A q := fun q h => by rw [← hAe]; exact Or.inr h
  have hS : va_S A s.heap s.heap [] := va_S.rf
  have hK := hKK.1
  have hl := lv_entry ([.ref (ad 35)]) (n := 1) (Nat.le_of_ble_eq_true rfl)
  rw [lg_entry_eq]
  generalize (lg_sl ([.ref (ad 35)]) ++ List.replicate (1 - (lg_sl ([.ref (ad 35)])).length) Slot.unset).toArray = ls at hl ⊢
  have hl : lv_has ls 1 [(0, .ref (ad 35))] := hl
  unfold x_Run_position_35 at h
  refine lv_aload_n hx hb d_Run_position_0 rfl (lv_at hl 0 rfl) ?_
  refine xg_35_at hx hb hts hin_PlainRun hown hK hP (hts _ k_294) (fun _ h9 => h9) d_Run_position_1 ?_
  refine lv_aload_n hx hb d_Run_position_4 rfl (lv_at hl 0 rfl) ?_
  refine xg_35_program hx hb hts hin_PlainRun hown hK hP (hts _ k_265) (fun _ h9 => h9) d_Run_position_5 ?_
  refine xg_1_size hx hb hts hin_Program hown hK hP (hts _ k_116) (fun _ h9 => h9) d_Run_position_8 ?_
  refine va_mmin hx hb (hml.trans hl.1.symm) hown (hts _ k_757) (hts _ k_758) (hts _ k_68) (hts _ k_759) (Nat.le_of_ble_eq_true rfl) (Nat.le_of_ble_eq_true rfl) (Nat.zero_le _) (Nat.zero_le _) d_Run_position_11 ?_
  exact q_iret hx hb hr hlocks h hP hD hS d_Run_position_14
def x_Run_position_31 (z0 : ST) : OR := some (if (z0.1 1) < (z0.1 18) then z0.1 1 else z0.1 18, z0)
set_option maxRecDepth 100000 in
set_option maxHeartbeats 4000000 in
theorem c_x_Run_position_31 (l : Launch) (dC : Nat → ClassId) (dI : Nat → Nat → Nat) (cI cZ : ClassId) (ad : Nat → Nat) (z0 : ST) (R : Int32 × ST) (h : x_Run_position_31 z0 = some R) : qMi l y_Run_position w_Run_position 1 21 (KX dC dI cI cZ) (dC, dI) q_cl (wX cI cZ ad) [.ref (ad 31)] z0 R := by
  intro sz
  refine Met.ofW (cc := b_Run_position) (maxL := 1) (ret := (some .int)) (by decide) rfl ?_
  intro p e s m args below meth c s₁ B hml hv
  obtain ⟨rfl, hsz, hP, hKK, hD0⟩ := hv
  have hx := B.exec
  have hb := B.bytes
  have hr := B.returns
  have hts : ∀ w ∈ q_big, w.before _ s = true := fun w h => atoms_spec (ws := w_Run_position) B.pre w (List.mem_cons_of_mem _ h)
  have hown : s.vm.findClass "SlippedStreams$Run" = some m.cls := findClass_of_methodNamed B.named
  have hlocks := B.notSynchronized
  subst hsz
  have hD := hD0.self (sz := s.heap.size)
  generalize hAe : va_A (wX cI cZ ad z0) s.heap.size = A at hD ⊢
  have hA : ∀ q : Nat, s.heap.size ≤ q → A q := fun q h => by rw [← hAe]; exact Or.inr h
  have hS : va_S A s.heap s.heap [] := va_S.rf
  have hK := hKK.1
  have hl := lv_entry ([.ref (ad 31)]) (n := 1) (Nat.le_of_ble_eq_true rfl)
  rw [lg_entry_eq]
  generalize (lg_sl ([.ref (ad 31)]) ++ List.replicate (1 - (lg_sl ([.ref (ad 31)])).length) Slot.unset).toArray = ls at hl ⊢
  have hl : lv_has ls 1 [(0, .ref (ad 31))] := hl
  unfold x_Run_position_31 at h
  refine lv_aload_n hx hb d_Run_position_0 rfl (lv_at hl 0 rfl) ?_
  refine xg_31_at hx hb hts hin_ValueStream hown hK hP (hts _ k_294) (fun _ h9 => h9) d_Run_position_1 ?_
  refine lv_aload_n hx hb d_Run_position_4 rfl (lv_at hl 0 rfl) ?_
  refine xg_31_program hx hb hts hin_ValueStream hown hK hP (hts _ k_265) (fun _ h9 => h9) d_Run_position_5 ?_
  refine xg_1_size hx hb hts hin_Program hown hK hP (hts _ k_116) (fun _ h9 => h9) d_Run_position_8 ?_
  refine va_mmin hx hb (hml.trans hl.1.symm) hown (hts _ k_757) (hts _ k_758) (hts _ k_68) (hts _ k_759) (Nat.le_of_ble_eq_true rfl) (Nat.le_of_ble_eq_true rfl) (Nat.zero_le _) (Nat.zero_le _) d_Run_position_11 ?_
  exact q_iret hx hb hr hlocks h hP hD hS d_Run_position_14
def x_Run_position_29 (z0 : ST) : OR := some (if (z0.1 1) < (z0.1 15) then z0.1 1 else z0.1 15, z0)
set_option maxRecDepth 100000 in
set_option maxHeartbeats 4000000 in
theorem c_x_Run_position_29 (l : Launch) (dC : Nat → ClassId) (dI : Nat → Nat → Nat) (cI cZ : ClassId) (ad : Nat → Nat) (z0 : ST) (R : Int32 × ST) (h : x_Run_position_29 z0 = some R) : qMi l y_Run_position w_Run_position 1 21 (KX dC dI cI cZ) (dC, dI) q_cl (wX cI cZ ad) [.ref (ad 29)] z0 R := by
  intro sz
  refine Met.ofW (cc := b_Run_position) (maxL := 1) (ret := (some .int)) (by decide) rfl ?_
  intro p e s m args below meth c s₁ B hml hv
  obtain ⟨rfl, hsz, hP, hKK, hD0⟩ := hv
  have hx := B.exec
  have hb := B.bytes
  have hr := B.returns
  have hts : ∀ w ∈ q_big, w.before _ s = true := fun w h => atoms_spec (ws := w_Run_position) B.pre w (List.mem_cons_of_mem _ h)
  have hown : s.vm.findClass "SlippedStreams$Run" = some m.cls := findClass_of_methodNamed B.named
  have hlocks := B.notSynchronized
  subst hsz
  have hD := hD0.self (sz := s.heap.size)
  generalize hAe : va_A (wX cI cZ ad z0) s.heap.size = A at hD ⊢
  have hA : ∀ q : Nat, s.heap.size ≤ q → A q := fun q h => by rw [← hAe]; exact Or.inr h
  have hS : va_S A s.heap s.heap [] := va_S.rf
  have hK := hKK.1
  have hl := lv_entry ([.ref (ad 29)]) (n := 1) (Nat.le_of_ble_eq_true rfl)
  rw [lg_entry_eq]
  generalize (lg_sl ([.ref (ad 29)]) ++ List.replicate (1 - (lg_sl ([.ref (ad 29)])).length) Slot.unset).toArray = ls at hl ⊢
  have hl : lv_has ls 1 [(0, .ref (ad 29))] := hl
  unfold x_Run_position_29 at h
  refine lv_aload_n hx hb d_Run_position_0 rfl (lv_at hl 0 rfl) ?_
  refine xg_29_at hx hb hts hin_AddressStream hown hK hP (hts _ k_294) (fun _ h9 => h9) d_Run_position_1 ?_
  refine lv_aload_n hx hb d_Run_position_4 rfl (lv_at hl 0 rfl) ?_
  refine xg_29_program hx hb hts hin_AddressStream hown hK hP (hts _ k_265) (fun _ h9 => h9) d_Run_position_5 ?_
  refine xg_1_size hx hb hts hin_Program hown hK hP (hts _ k_116) (fun _ h9 => h9) d_Run_position_8 ?_
  refine va_mmin hx hb (hml.trans hl.1.symm) hown (hts _ k_757) (hts _ k_758) (hts _ k_68) (hts _ k_759) (Nat.le_of_ble_eq_true rfl) (Nat.le_of_ble_eq_true rfl) (Nat.zero_le _) (Nat.zero_le _) d_Run_position_11 ?_
  exact q_iret hx hb hr hlocks h hP hD hS d_Run_position_14
def x_place (z0 : ST) (x1 : Int32) : OR := if x1 = 0 then (obn (x_Run_position_29 z0) (fun r3 z3 => some (r3, z3))) else (if x1 = 1 then (obn (x_Run_position_31 z0) (fun r2 z2 => some (r2, z2))) else (obn (x_Run_position_35 z0) (fun r1 z1 => some (r1, z1))))
set_option maxRecDepth 100000 in
set_option maxHeartbeats 4000000 in
theorem c_x_place (l : Launch) (dC : Nat → ClassId) (dI : Nat → Nat → Nat) (cI cZ : ClassId) (ad : Nat → Nat) (z0 : ST) (x1 : Int32) (R : Int32 × ST) (h : x_place z0 x1 = some R) : qMi l y_SlippedStreams_place w_SlippedStreams_place 2 41 (KX dC dI cI cZ) (dC, dI) q_cl (wX cI cZ ad) [.ref (ad 0), .int x1] z0 R := by
  intro sz
  refine Met.ofW (cc := b_SlippedStreams_place) (maxL := 2) (ret := (some .int)) (by decide) rfl ?_
  intro p e s m args below meth c s₁ B hml hv
  obtain ⟨rfl, hsz, hP, hKK, hD0⟩ := hv
  have hx := B.exec
  have hb := B.bytes
  have hr := B.returns
  have hts : ∀ w ∈ q_big, w.before _ s = true := fun w h => atoms_spec (ws := w_SlippedStreams_place) B.pre w (List.mem_cons_of_mem _ h)
  have hown : s.vm.findClass "SlippedStreams" = some m.cls := findClass_of_methodNamed B.named
  have hlocks := B.notSynchronized
  subst hsz
  have hD := hD0.self (sz := s.heap.size)
  generalize hAe : va_A (wX cI cZ ad z0) s.heap.size = A at hD ⊢
  have hA : ∀ q : Nat, s.heap.size ≤ q → A q := fun q h => by rw [← hAe]; exact Or.inr h
  have hS : va_S A s.heap s.heap [] := va_S.rf
  have hK := hKK.1
  have hl := lv_entry ([.ref (ad 0), .int x1]) (n := 2) (Nat.le_of_ble_eq_true rfl)
  rw [lg_entry_eq]
  generalize (lg_sl ([.ref (ad 0), .int x1]) ++ List.replicate (2 - (lg_sl ([.ref (ad 0), .int x1])).length) Slot.unset).toArray = ls at hl ⊢
  have hl : lv_has ls 2 [(0, .ref (ad 0)), (1, .int x1)] := hl
  unfold x_place at h
  refine lv_iload_n hx hb d_SlippedStreams_place_0 rfl (lv_at hl 1 rfl) ?_
  refine lv_if_ne (tgt := 12) hx hb d_SlippedStreams_place_1 (by decide) (fun hc => ?_) (fun hc => ?_)
  · replace h := if_f hc h
    refine lv_iload_n hx hb d_SlippedStreams_place_12 rfl (lv_at hl 1 rfl) ?_
    refine lv_iconst (v := 1) hx hb d_SlippedStreams_place_13 (by decide) ?_
    refine lv_icmp_ne (tgt := 27) hx hb d_SlippedStreams_place_14 (by decide) (fun hc => ?_) (fun hc => ?_)
    · replace h := if_f hc h
      refine lv_aload_n hx hb d_SlippedStreams_place_27 rfl (lv_at hl 0 rfl) ?_
      refine xg_0_plainRun hx hb hts hin_SlippedStreams hown hK hP (hts _ k_366) (fun _ h9 => h9) d_SlippedStreams_place_28 ?_
      obtain ⟨r1, z1, hc1, h⟩ := obn_e h
      refine q_goi (va_runU (As := []) (rest := []) ⟨hx, hb, hml, hown, hts⟩ (c_x_Run_position_35 l dC dI cI cZ ad z0 _ hc1 _) (va_cwU 0 hts (q_goodL _ (q_l5 k_763 k_764 k_765 k_755 k_58) k_756) rfl rfl rfl rfl (by decide +kernel) ⟨Nat.le_of_ble_eq_true rfl, Nat.le_of_ble_eq_true rfl⟩) (q_preV qok hKK hP hD (va_recv (ci := 8) (q0 := 35) hK hP rfl rfl)) rfl rfl hl.1 rfl (lv_room (Nat.le_of_ble_eq_true rfl)) d_SlippedStreams_place_31 ⟨Nat.le_refl _, Nat.le_refl _⟩) hD hS hA (fun H locs hP hD hS => ?_)
      exact q_iret hx hb hr hlocks h hP hD hS d_SlippedStreams_place_34
    · replace h := if_t hc h
      refine lv_aload_n hx hb d_SlippedStreams_place_17 rfl (lv_at hl 0 rfl) ?_
      refine xg_0_valueStream hx hb hts hin_SlippedStreams hown hK hP (hts _ k_365) (fun _ h9 => h9) d_SlippedStreams_place_18 ?_
      obtain ⟨r2, z2, hc2, h⟩ := obn_e h
      refine q_goi (va_runU (As := []) (rest := []) ⟨hx, hb, hml, hown, hts⟩ (c_x_Run_position_31 l dC dI cI cZ ad z0 _ hc2 _) (va_cwU 0 hts (q_goodL _ (q_l5 k_760 k_761 k_762 k_755 k_58) k_756) rfl rfl rfl rfl (by decide +kernel) ⟨Nat.le_of_ble_eq_true rfl, Nat.le_of_ble_eq_true rfl⟩) (q_preV qok hKK hP hD (va_recv (ci := 6) (q0 := 31) hK hP rfl rfl)) rfl rfl hl.1 rfl (lv_room (Nat.le_of_ble_eq_true rfl)) d_SlippedStreams_place_21 ⟨Nat.le_refl _, Nat.le_refl _⟩) hD hS hA (fun H locs hP hD hS => ?_)
      refine lv_goto (tgt := 34) hx hb d_SlippedStreams_place_24 (by decide) ?_
      exact q_iret hx hb hr hlocks h hP hD hS d_SlippedStreams_place_34
  · replace h := if_t hc h
    refine lv_aload_n hx hb d_SlippedStreams_place_4 rfl (lv_at hl 0 rfl) ?_
    refine xg_0_addressStream hx hb hts hin_SlippedStreams hown hK hP (hts _ k_364) (fun _ h9 => h9) d_SlippedStreams_place_5 ?_
    obtain ⟨r3, z3, hc3, h⟩ := obn_e h
    refine q_goi (va_runU (As := []) (rest := []) ⟨hx, hb, hml, hown, hts⟩ (c_x_Run_position_29 l dC dI cI cZ ad z0 _ hc3 _) (va_cwU 0 hts (q_goodL _ (q_l5 k_751 k_752 k_754 k_755 k_58) k_756) rfl rfl rfl rfl (by decide +kernel) ⟨Nat.le_of_ble_eq_true rfl, Nat.le_of_ble_eq_true rfl⟩) (q_preV qok hKK hP hD (va_recv (ci := 5) (q0 := 29) hK hP rfl rfl)) rfl rfl hl.1 rfl (lv_room (Nat.le_of_ble_eq_true rfl)) d_SlippedStreams_place_8 ⟨Nat.le_refl _, Nat.le_refl _⟩) hD hS hA (fun H locs hP hD hS => ?_)
    exact q_iret hx hb hr hlocks h hP hD hS d_SlippedStreams_place_11
def x_slip (z0 : ST) : OR := some ((z0.1 16) - (z0.1 19), z0)
set_option maxRecDepth 100000 in
set_option maxHeartbeats 4000000 in
theorem c_x_slip (l : Launch) (dC : Nat → ClassId) (dI : Nat → Nat → Nat) (cI cZ : ClassId) (ad : Nat → Nat) (z0 : ST) (R : Int32 × ST) (h : x_slip z0 = some R) : qMi l y_SlippedStreams_slip w_SlippedStreams_slip 0 0 (KX dC dI cI cZ) (dC, dI) q_cl (wX cI cZ ad) [.ref (ad 0)] z0 R := by
  intro sz
  refine Met.ofW (cc := b_SlippedStreams_slip) (maxL := 1) (ret := (some .int)) (by decide) rfl ?_
  intro p e s m args below meth c s₁ B hml hv
  obtain ⟨rfl, hsz, hP, hKK, hD0⟩ := hv
  have hx := B.exec
  have hb := B.bytes
  have hr := B.returns
  have hts : ∀ w ∈ q_big, w.before _ s = true := fun w h => atoms_spec (ws := w_SlippedStreams_slip) B.pre w (List.mem_cons_of_mem _ h)
  have hown : s.vm.findClass "SlippedStreams" = some m.cls := findClass_of_methodNamed B.named
  have hlocks := B.notSynchronized
  subst hsz
  have hD := hD0.self (sz := s.heap.size)
  generalize hAe : va_A (wX cI cZ ad z0) s.heap.size = A at hD ⊢
  have hA : ∀ q : Nat, s.heap.size ≤ q → A q := fun q h => by rw [← hAe]; exact Or.inr h
  have hS : va_S A s.heap s.heap [] := va_S.rf
  have hK := hKK.1
  have hl := lv_entry ([.ref (ad 0)]) (n := 1) (Nat.le_of_ble_eq_true rfl)
  rw [lg_entry_eq]
  generalize (lg_sl ([.ref (ad 0)]) ++ List.replicate (1 - (lg_sl ([.ref (ad 0)])).length) Slot.unset).toArray = ls at hl ⊢
  have hl : lv_has ls 1 [(0, .ref (ad 0))] := hl
  unfold x_slip at h
  refine lv_aload_n hx hb d_SlippedStreams_slip_0 rfl (lv_at hl 0 rfl) ?_
  refine xg_0_addressStream hx hb hts hin_SlippedStreams hown hK hP (hts _ k_364) (fun _ h9 => h9) d_SlippedStreams_slip_1 ?_
  refine xg_29_left hx hb hts hin_AddressStream hown hK hP (hts _ k_261) (fun x9 h9 => u_same (hts _ k_262) x9 h9) d_SlippedStreams_slip_4 ?_
  refine lv_aload_n hx hb d_SlippedStreams_slip_7 rfl (lv_at hl 0 rfl) ?_
  refine xg_0_valueStream hx hb hts hin_SlippedStreams hown hK hP (hts _ k_365) (fun _ h9 => h9) d_SlippedStreams_slip_8 ?_
  refine xg_31_left hx hb hts hin_ValueStream hown hK hP (hts _ k_263) (fun x9 h9 => u_same (hts _ k_264) x9 h9) d_SlippedStreams_slip_11 ?_
  refine lv_isub hx hb d_SlippedStreams_slip_14 ?_
  exact q_iret hx hb hr hlocks h hP hD hS d_SlippedStreams_slip_15
def x_queue (z0 : ST) (x1 : Int32) : OR := if x1 = 0 then (some (z0.1 4, z0)) else (if x1 = 1 then (some (z0.1 6, z0)) else (if x1 = 2 then (some (z0.1 8, z0)) else (if x1 = 3 then (some (z0.1 10, z0)) else (if x1 = 4 then (some (z0.1 12, z0)) else (if x1 = 5 then (some (z0.1 14, z0)) else (some ((-1), z0)))))))
set_option maxRecDepth 100000 in
set_option maxHeartbeats 4000000 in
theorem c_x_queue (l : Launch) (dC : Nat → ClassId) (dI : Nat → Nat → Nat) (cI cZ : ClassId) (ad : Nat → Nat) (z0 : ST) (x1 : Int32) (R : Int32 × ST) (h : x_queue z0 x1 = some R) : qMi l y_SlippedStreams_queue w_SlippedStreams_queue 0 0 (KX dC dI cI cZ) (dC, dI) q_cl (wX cI cZ ad) [.ref (ad 0), .int x1] z0 R := by
  intro sz
  refine Met.ofW (cc := b_SlippedStreams_queue) (maxL := 2) (ret := (some .int)) (by decide) rfl ?_
  intro p e s m args below meth c s₁ B hml hv
  obtain ⟨rfl, hsz, hP, hKK, hD0⟩ := hv
  have hx := B.exec
  have hb := B.bytes
  have hr := B.returns
  have hts : ∀ w ∈ q_big, w.before _ s = true := fun w h => atoms_spec (ws := w_SlippedStreams_queue) B.pre w (List.mem_cons_of_mem _ h)
  have hown : s.vm.findClass "SlippedStreams" = some m.cls := findClass_of_methodNamed B.named
  have hlocks := B.notSynchronized
  subst hsz
  have hD := hD0.self (sz := s.heap.size)
  generalize hAe : va_A (wX cI cZ ad z0) s.heap.size = A at hD ⊢
  have hA : ∀ q : Nat, s.heap.size ≤ q → A q := fun q h => by rw [← hAe]; exact Or.inr h
  have hS : va_S A s.heap s.heap [] := va_S.rf
  have hK := hKK.1
  have hl := lv_entry ([.ref (ad 0), .int x1]) (n := 2) (Nat.le_of_ble_eq_true rfl)
  rw [lg_entry_eq]
  generalize (lg_sl ([.ref (ad 0), .int x1]) ++ List.replicate (2 - (lg_sl ([.ref (ad 0), .int x1])).length) Slot.unset).toArray = ls at hl ⊢
  have hl : lv_has ls 2 [(0, .ref (ad 0)), (1, .int x1)] := hl
  unfold x_queue at h
  refine lv_iload_n hx hb d_SlippedStreams_queue_0 rfl (lv_at hl 1 rfl) ?_
  by_cases hc0 : x1 = 0
  · replace h := if_t hc0 h
    refine lv_tableIn (tgt := 40) (off := 39) hx hb d_SlippedStreams_queue_1 (by rw [hc0]; decide) (by rw [hc0]; decide) (by rw [hc0]; rfl) (by decide) ?_
    refine lv_aload_n hx hb d_SlippedStreams_queue_40 rfl (lv_at hl 0 rfl) ?_
    refine xg_0_link hx hb hts hin_SlippedStreams hown hK hP (hts _ k_363) (fun _ h9 => h9) d_SlippedStreams_queue_41 ?_
    refine xg_13_loads hx hb hts hin_Link hown hK hP (hts _ k_205) (fun _ h9 => h9) d_SlippedStreams_queue_44 ?_
    refine xg_15_size hx hb hts hin_Fifo hown hK hP (hts _ k_165) (fun _ h9 => h9) d_SlippedStreams_queue_47 ?_
    exact q_iret hx hb hr hlocks h hP hD hS d_SlippedStreams_queue_50
  · replace h := if_f hc0 h
    by_cases hc1 : x1 = 1
    · replace h := if_t hc1 h
      refine lv_tableIn (tgt := 51) (off := 50) hx hb d_SlippedStreams_queue_1 (by rw [hc1]; decide) (by rw [hc1]; decide) (by rw [hc1]; rfl) (by decide) ?_
      refine lv_aload_n hx hb d_SlippedStreams_queue_51 rfl (lv_at hl 0 rfl) ?_
      refine xg_0_link hx hb hts hin_SlippedStreams hown hK hP (hts _ k_363) (fun _ h9 => h9) d_SlippedStreams_queue_52 ?_
      refine xg_13_stored hx hb hts hin_Link hown hK hP (hts _ k_209) (fun _ h9 => h9) d_SlippedStreams_queue_55 ?_
      refine xg_16_size hx hb hts hin_Fifo hown hK hP (hts _ k_165) (fun _ h9 => h9) d_SlippedStreams_queue_58 ?_
      exact q_iret hx hb hr hlocks h hP hD hS d_SlippedStreams_queue_61
    · replace h := if_f hc1 h
      by_cases hc2 : x1 = 2
      · replace h := if_t hc2 h
        refine lv_tableIn (tgt := 62) (off := 61) hx hb d_SlippedStreams_queue_1 (by rw [hc2]; decide) (by rw [hc2]; decide) (by rw [hc2]; rfl) (by decide) ?_
        refine lv_aload_n hx hb d_SlippedStreams_queue_62 rfl (lv_at hl 0 rfl) ?_
        refine xg_0_link hx hb hts hin_SlippedStreams hown hK hP (hts _ k_363) (fun _ h9 => h9) d_SlippedStreams_queue_63 ?_
        refine xg_13_valueOutcomes hx hb hts hin_Link hown hK hP (hts _ k_213) (fun _ h9 => h9) d_SlippedStreams_queue_66 ?_
        refine xg_17_size hx hb hts hin_Fifo hown hK hP (hts _ k_165) (fun _ h9 => h9) d_SlippedStreams_queue_69 ?_
        exact q_iret hx hb hr hlocks h hP hD hS d_SlippedStreams_queue_72
      · replace h := if_f hc2 h
        by_cases hc3 : x1 = 3
        · replace h := if_t hc3 h
          refine lv_tableIn (tgt := 73) (off := 72) hx hb d_SlippedStreams_queue_1 (by rw [hc3]; decide) (by rw [hc3]; decide) (by rw [hc3]; rfl) (by decide) ?_
          refine lv_aload_n hx hb d_SlippedStreams_queue_73 rfl (lv_at hl 0 rfl) ?_
          refine xg_0_link hx hb hts hin_SlippedStreams hown hK hP (hts _ k_363) (fun _ h9 => h9) d_SlippedStreams_queue_74 ?_
          refine xg_13_addressOutcomes hx hb hts hin_Link hown hK hP (hts _ k_217) (fun _ h9 => h9) d_SlippedStreams_queue_77 ?_
          refine xg_18_size hx hb hts hin_Fifo hown hK hP (hts _ k_165) (fun _ h9 => h9) d_SlippedStreams_queue_80 ?_
          exact q_iret hx hb hr hlocks h hP hD hS d_SlippedStreams_queue_83
        · replace h := if_f hc3 h
          by_cases hc4 : x1 = 4
          · replace h := if_t hc4 h
            refine lv_tableIn (tgt := 84) (off := 83) hx hb d_SlippedStreams_queue_1 (by rw [hc4]; decide) (by rw [hc4]; decide) (by rw [hc4]; rfl) (by decide) ?_
            refine lv_aload_n hx hb d_SlippedStreams_queue_84 rfl (lv_at hl 0 rfl) ?_
            refine xg_0_link hx hb hts hin_SlippedStreams hown hK hP (hts _ k_363) (fun _ h9 => h9) d_SlippedStreams_queue_85 ?_
            refine xg_13_passed hx hb hts hin_Link hown hK hP (hts _ k_221) (fun _ h9 => h9) d_SlippedStreams_queue_88 ?_
            refine xg_19_size hx hb hts hin_Fifo hown hK hP (hts _ k_165) (fun _ h9 => h9) d_SlippedStreams_queue_91 ?_
            exact q_iret hx hb hr hlocks h hP hD hS d_SlippedStreams_queue_94
          · replace h := if_f hc4 h
            by_cases hc5 : x1 = 5
            · replace h := if_t hc5 h
              refine lv_tableIn (tgt := 95) (off := 94) hx hb d_SlippedStreams_queue_1 (by rw [hc5]; decide) (by rw [hc5]; decide) (by rw [hc5]; rfl) (by decide) ?_
              refine lv_aload_n hx hb d_SlippedStreams_queue_95 rfl (lv_at hl 0 rfl) ?_
              refine xg_0_link hx hb hts hin_SlippedStreams hown hK hP (hts _ k_363) (fun _ h9 => h9) d_SlippedStreams_queue_96 ?_
              refine xg_13_stores hx hb hts hin_Link hown hK hP (hts _ k_225) (fun _ h9 => h9) d_SlippedStreams_queue_99 ?_
              refine xg_25_size hx hb hts hin_StoreList hown hK hP (hts _ k_185) (fun _ h9 => h9) d_SlippedStreams_queue_102 ?_
              exact q_iret hx hb hr hlocks h hP hD hS d_SlippedStreams_queue_105
            · replace h := if_f hc5 h
              refine lv_tableOut (tgt := 106) hx hb d_SlippedStreams_queue_1 (by have g0 := lv_neT hc0 (a := 0) (by decide); have g1 := lv_neT hc1 (a := 1) (by decide); have g2 := lv_neT hc2 (a := 2) (by decide); have g3 := lv_neT hc3 (a := 3) (by decide); have g4 := lv_neT hc4 (a := 4) (by decide); have g5 := lv_neT hc5 (a := 5) (by decide); omega) (by decide) ?_
              refine lv_iconst (v := (-1)) hx hb d_SlippedStreams_queue_106 (by decide) ?_
              exact q_iret hx hb hr hlocks h hP hD hS d_SlippedStreams_queue_107
