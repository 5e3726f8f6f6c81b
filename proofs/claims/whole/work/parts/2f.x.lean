def x_Fifo_hasRoomFor_17 (z0 : ST) (x1 : Int32) : OR := if 4 < ((z0.1 8) + x1) then (gib 0 (some (0, z0))) else (gib 1 (some (1, z0)))
set_option maxRecDepth 100000 in
set_option maxHeartbeats 4000000 in
theorem c_x_Fifo_hasRoomFor_17 (l : Launch) (dC : Nat → ClassId) (dI : Nat → Nat → Nat) (cI cZ : ClassId) (ad : Nat → Nat) (z0 : ST) (x1 : Int32) (R : Int32 × ST) (h : x_Fifo_hasRoomFor_17 z0 x1 = some R) : qMi l y_Fifo_hasRoomFor w_Fifo_hasRoomFor 0 0 (KX dC dI cI cZ) (dC, dI) q_cl (wX cI cZ ad) [.ref (ad 17), .int x1] z0 R := by
  intro sz
  refine Met.ofW (cc := b_Fifo_hasRoomFor) (maxL := 2) (ret := (some .boolean)) (by decide) rfl ?_
  intro p e s m args below meth c s₁ B hml hv
  obtain ⟨rfl, hsz, hP, hKK, hD0⟩ := hv
  have hx := B.exec
  have hb := B.bytes
  have hr := B.returns
  have hts : ∀ w ∈ q_big, w.before _ s = true := fun w h => atoms_spec (ws := w_Fifo_hasRoomFor) B.pre w (List.mem_cons_of_mem _ h)
  have hown : s.vm.findClass "SlippedStreams$Fifo" = some m.cls := findClass_of_methodNamed B.named
  have hlocks := B.notSynchronized
  subst hsz
  have hD := hD0.self (sz := s.heap.size)
  generalize hAe : va_A (wX cI cZ ad z0) s.heap.size = A at hD ⊢
  have hA : ∀ q : Nat, s.heap.size ≤ q → A q := fun q h => by rw [← hAe]; exact Or.inr h
  have hS : va_S A s.heap s.heap [] := va_S.rf
  have hK := hKK.1
  have hl := lv_entry ([.ref (ad 17), .int x1]) (n := 2) (Nat.le_of_ble_eq_true rfl)
  rw [lg_entry_eq]
  generalize (lg_sl ([.ref (ad 17), .int x1]) ++ List.replicate (2 - (lg_sl ([.ref (ad 17), .int x1])).length) Slot.unset).toArray = ls at hl ⊢
  have hl : lv_has ls 2 [(0, .ref (ad 17)), (1, .int x1)] := hl
  unfold x_Fifo_hasRoomFor_17 at h
  refine lv_aload_n hx hb d_Fifo_hasRoomFor_0 rfl (lv_at hl 0 rfl) ?_
  refine xg_17_size hx hb hts hin_Fifo hown hK hP (hts _ k_161) (fun _ h9 => h9) d_Fifo_hasRoomFor_1 ?_
  refine lv_iload_n hx hb d_Fifo_hasRoomFor_4 rfl (lv_at hl 1 rfl) ?_
  refine lv_iadd hx hb d_Fifo_hasRoomFor_5 ?_
  refine lv_aload_n hx hb d_Fifo_hasRoomFor_6 rfl (lv_at hl 0 rfl) ?_
  refine xg_17_things hx hb hts hin_Fifo hown hK hP (hts _ k_159) (fun _ h9 => h9) d_Fifo_hasRoomFor_7 ?_
  refine va_alen (v := 4) hx hb hK hP 22 0 rfl rfl rfl d_Fifo_hasRoomFor_10 ?_
  refine lv_icmp_gt (tgt := 18) hx hb d_Fifo_hasRoomFor_11 (by decide) (fun hc => ?_) (fun hc => ?_)
  · replace h := if_t hc h
    refine lv_iconst (v := 0) hx hb d_Fifo_hasRoomFor_18 (by decide) ?_
    exact q_zret hx hb hr hlocks h hP hD hS d_Fifo_hasRoomFor_19
  · replace h := if_f hc h
    refine lv_iconst (v := 1) hx hb d_Fifo_hasRoomFor_14 (by decide) ?_
    refine lv_goto (tgt := 19) hx hb d_Fifo_hasRoomFor_15 (by decide) ?_
    exact q_zret hx hb hr hlocks h hP hD hS d_Fifo_hasRoomFor_19
def x_Fifo_put_17_34 (z0 : ST) (y1 y2 y3 : Int32) : OR := gin y3 4 (bnd (stA z0 14 (upd (z0.2 14) y3.toNatClampNeg y1)) (fun z1 => bnd (stI z1 8 ((z1.1 8) + 1)) (fun z2 => some (0, z2))))
def x_Fifo_put_17 (z0 : ST) (x1 : Int32) : OR := if 4 ≤ ((z0.1 7) + (z0.1 8)) then (x_Fifo_put_17_34 z0 x1 ((z0.1 7) + (z0.1 8)) (((z0.1 7) + (z0.1 8)) - 4)) else (x_Fifo_put_17_34 z0 x1 ((z0.1 7) + (z0.1 8)) ((z0.1 7) + (z0.1 8)))
set_option maxRecDepth 100000 in
set_option maxHeartbeats 4000000 in
theorem c_x_Fifo_put_17 (l : Launch) (dC : Nat → ClassId) (dI : Nat → Nat → Nat) (cI cZ : ClassId) (ad : Nat → Nat) (z0 : ST) (x1 : Int32) (R : Int32 × ST) (h : x_Fifo_put_17 z0 x1 = some R) : qMv l y_Fifo_put w_Fifo_put 0 0 (KX dC dI cI cZ) (dC, dI) q_cl (wX cI cZ ad) [.ref (ad 17), .int x1] z0 R := by
  intro sz
  refine Met.ofW (cc := b_Fifo_put) (maxL := 3) (ret := none) (by decide) rfl ?_
  intro p e s m args below meth c s₁ B hml hv
  obtain ⟨rfl, hsz, hP, hKK, hD0⟩ := hv
  have hx := B.exec
  have hb := B.bytes
  have hr := B.returns
  have hts : ∀ w ∈ q_big, w.before _ s = true := fun w h => atoms_spec (ws := w_Fifo_put) B.pre w (List.mem_cons_of_mem _ h)
  have hown : s.vm.findClass "SlippedStreams$Fifo" = some m.cls := findClass_of_methodNamed B.named
  have hlocks := B.notSynchronized
  subst hsz
  have hD := hD0.self (sz := s.heap.size)
  generalize hAe : va_A (wX cI cZ ad z0) s.heap.size = A at hD ⊢
  have hA : ∀ q : Nat, s.heap.size ≤ q → A q := fun q h => by rw [← hAe]; exact Or.inr h
  have hS : va_S A s.heap s.heap [] := va_S.rf
  have hK := hKK.1
  have hl := lv_entry ([.ref (ad 17), .int x1]) (n := 3) (Nat.le_of_ble_eq_true rfl)
  rw [lg_entry_eq]
  generalize (lg_sl ([.ref (ad 17), .int x1]) ++ List.replicate (3 - (lg_sl ([.ref (ad 17), .int x1])).length) Slot.unset).toArray = ls at hl ⊢
  have hl : lv_has ls 3 [(0, .ref (ad 17)), (1, .int x1)] := hl
  have jp_34 : ∀ (z0 : ST) (y1 y2 y3 : Int32) (H : Heap) (locs : List Loc) (ls : Array Slot), x_Fifo_put_17_34 z0 y1 y2 y3 = some R → va_P (dC, dI) q_cl (wX cI cZ ad z0) H → va_D A (wX cI cZ ad z0) → va_S A s.heap H locs → lv_has ls 3 [(0, .ref (ad 17)), (1, .int y1), (2, .int y2)] → qWv p l e w_Fifo_put 0 0 s m [.ref (ad 17), .int x1] below meth c (dC, dI) q_cl (wX cI cZ ad) A R H locs (F0 m 34 ls [.int y3, .ref (ad 22)]) := by
    intro z0 y1 y2 y3 H locs ls h hP hD hS hl
    unfold x_Fifo_put_17_34 at h
    refine lv_iload_n hx hb d_Fifo_put_34 rfl (lv_at hl 1 rfl) ?_
    obtain ⟨hi, h⟩ := gin_e h
    obtain ⟨z1, e1, h⟩ := bnd_e h
    refine xs_14 hx hb hK hP hD hS hi d_Fifo_put_35 e1 (fun H locs hP hD hS => ?_)
    refine lv_aload_n hx hb d_Fifo_put_36 rfl (lv_at hl 0 rfl) ?_
    refine lv_dup hx hb d_Fifo_put_37 rfl ?_
    refine xg_17_size hx hb hts hin_Fifo hown hK hP (hts _ k_161) (fun _ h9 => h9) d_Fifo_put_38 ?_
    refine lv_iconst (v := 1) hx hb d_Fifo_put_41 (by decide) ?_
    refine lv_iadd hx hb d_Fifo_put_42 ?_
    obtain ⟨z2, e2, h⟩ := bnd_e h
    refine xp_17_size hx hb hts hin_Fifo hown hK hP hD hS (hts _ k_161) (fun _ h9 => h9) d_Fifo_put_43 e2 (fun H locs hP hD hS => ?_)
    exact q_vret hx hb hr hlocks h hP hD hS d_Fifo_put_46
  unfold x_Fifo_put_17 at h
  refine lv_aload_n hx hb d_Fifo_put_0 rfl (lv_at hl 0 rfl) ?_
  refine xg_17_first hx hb hts hin_Fifo hown hK hP (hts _ k_160) (fun _ h9 => h9) d_Fifo_put_1 ?_
  refine lv_aload_n hx hb d_Fifo_put_4 rfl (lv_at hl 0 rfl) ?_
  refine xg_17_size hx hb hts hin_Fifo hown hK hP (hts _ k_161) (fun _ h9 => h9) d_Fifo_put_5 ?_
  refine lv_iadd hx hb d_Fifo_put_8 ?_
  refine lv_istore_n (lv' := [(2, .int ((z0.1 7) + (z0.1 8))), (0, .ref (ad 17)), (1, .int x1)]) hx hb d_Fifo_put_9 rfl hl (by decide) rfl (fun ls hl => ?_)
  refine lv_aload_n hx hb d_Fifo_put_10 rfl (lv_at hl 1 rfl) ?_
  refine xg_17_things hx hb hts hin_Fifo hown hK hP (hts _ k_159) (fun _ h9 => h9) d_Fifo_put_11 ?_
  refine lv_iload_n hx hb d_Fifo_put_14 rfl (lv_at hl 0 rfl) ?_
  refine lv_aload_n hx hb d_Fifo_put_15 rfl (lv_at hl 1 rfl) ?_
  refine xg_17_things hx hb hts hin_Fifo hown hK hP (hts _ k_159) (fun _ h9 => h9) d_Fifo_put_16 ?_
  refine va_alen (v := 4) hx hb hK hP 22 0 rfl rfl rfl d_Fifo_put_19 ?_
  refine lv_icmp_ge (tgt := 27) hx hb d_Fifo_put_20 (by decide) (fun hc => ?_) (fun hc => ?_)
  · replace h := if_t hc h
    refine lv_iload_n hx hb d_Fifo_put_27 rfl (lv_at hl 0 rfl) ?_
    refine lv_aload_n hx hb d_Fifo_put_28 rfl (lv_at hl 1 rfl) ?_
    refine xg_17_things hx hb hts hin_Fifo hown hK hP (hts _ k_159) (fun _ h9 => h9) d_Fifo_put_29 ?_
    refine va_alen (v := 4) hx hb hK hP 22 0 rfl rfl rfl d_Fifo_put_32 ?_
    refine lv_isub hx hb d_Fifo_put_33 ?_
    exact jp_34 z0 x1 ((z0.1 7) + (z0.1 8)) (((z0.1 7) + (z0.1 8)) - 4) _ _ _ h hP hD hS (lv_sub hl [1, 2, 0] rfl)
  · replace h := if_f hc h
    refine lv_iload_n hx hb d_Fifo_put_23 rfl (lv_at hl 0 rfl) ?_
    refine lv_goto (tgt := 34) hx hb d_Fifo_put_24 (by decide) ?_
    exact jp_34 z0 x1 ((z0.1 7) + (z0.1 8)) ((z0.1 7) + (z0.1 8)) _ _ _ h hP hD hS (lv_sub hl [1, 2, 0] rfl)
def x_Run_test_29 (z0 : ST) (x1 : Int32) : OR := gin x1 24 (gin (z0.2 1 x1.toNatClampNeg) 8 (gin x1 24 (gin (z0.2 2 x1.toNatClampNeg) 8 (gin x1 24 (if (z0.2 0 x1.toNatClampNeg) = 6 then (if (z0.2 20 (z0.2 2 x1.toNatClampNeg).toNatClampNeg) ≤ (z0.2 20 (z0.2 1 x1.toNatClampNeg).toNatClampNeg) then (gib 0 (some (0, z0))) else (gib 1 (some (1, z0)))) else (if (z0.2 20 (z0.2 1 x1.toNatClampNeg).toNatClampNeg) = (z0.2 20 (z0.2 2 x1.toNatClampNeg).toNatClampNeg) then (gib 0 (some (0, z0))) else (gib 1 (some (1, z0)))))))))
set_option maxRecDepth 100000 in
set_option maxHeartbeats 4000000 in
theorem c_x_Run_test_29 (l : Launch) (dC : Nat → ClassId) (dI : Nat → Nat → Nat) (cI cZ : ClassId) (ad : Nat → Nat) (z0 : ST) (x1 : Int32) (R : Int32 × ST) (h : x_Run_test_29 z0 x1 = some R) : qMi l y_Run_test w_Run_test 0 0 (KX dC dI cI cZ) (dC, dI) q_cl (wX cI cZ ad) [.ref (ad 29), .int x1] z0 R := by
  intro sz
  refine Met.ofW (cc := b_Run_test) (maxL := 4) (ret := (some .boolean)) (by decide) rfl ?_
  intro p e s m args below meth c s₁ B hml hv
  obtain ⟨rfl, hsz, hP, hKK, hD0⟩ := hv
  have hx := B.exec
  have hb := B.bytes
  have hr := B.returns
  have hts : ∀ w ∈ q_big, w.before _ s = true := fun w h => atoms_spec (ws := w_Run_test) B.pre w (List.mem_cons_of_mem _ h)
  have hown : s.vm.findClass "SlippedStreams$Run" = some m.cls := findClass_of_methodNamed B.named
  have hlocks := B.notSynchronized
  subst hsz
  have hD := hD0.self (sz := s.heap.size)
  generalize hAe : va_A (wX cI cZ ad z0) s.heap.size = A at hD ⊢
  have hA : ∀ q : Nat, s.heap.size ≤ q → A q := fun q h => by rw [← hAe]; exact Or.inr h
  have hS : va_S A s.heap s.heap [] := va_S.rf
  have hK := hKK.1
  have hl := lv_entry ([.ref (ad 29), .int x1]) (n := 4) (Nat.le_of_ble_eq_true rfl)
  rw [lg_entry_eq]
  generalize (lg_sl ([.ref (ad 29), .int x1]) ++ List.replicate (4 - (lg_sl ([.ref (ad 29), .int x1])).length) Slot.unset).toArray = ls at hl ⊢
  have hl : lv_has ls 4 [(0, .ref (ad 29)), (1, .int x1)] := hl
  unfold x_Run_test_29 at h
  refine lv_aload_n hx hb d_Run_test_0 rfl (lv_at hl 0 rfl) ?_
  refine xg_29_registers hx hb hts hin_AddressStream hown hK hP (hts _ k_274) (fun _ h9 => h9) d_Run_test_1 ?_
  refine lv_aload_n hx hb d_Run_test_4 rfl (lv_at hl 0 rfl) ?_
  refine xg_29_program hx hb hts hin_AddressStream hown hK hP (hts _ k_265) (fun _ h9 => h9) d_Run_test_5 ?_
  refine xg_1_as hx hb hts hin_Program hown hK hP (hts _ k_92) (fun _ h9 => h9) d_Run_test_8 ?_
  refine lv_iload_n hx hb d_Run_test_11 rfl (lv_at hl 1 rfl) ?_
  obtain ⟨hi, h⟩ := gin_e h
  refine xl_1 hx hb hK hP hi d_Run_test_12 ?_
  obtain ⟨hi, h⟩ := gin_e h
  refine xl_20 hx hb hK hP hi d_Run_test_13 ?_
  refine lv_istore_n (lv' := [(2, .int (z0.2 20 (z0.2 1 x1.toNatClampNeg).toNatClampNeg)), (0, .ref (ad 29)), (1, .int x1)]) hx hb d_Run_test_14 rfl hl (by decide) rfl (fun ls hl => ?_)
  refine lv_aload_n hx hb d_Run_test_15 rfl (lv_at hl 1 rfl) ?_
  refine xg_29_registers hx hb hts hin_AddressStream hown hK hP (hts _ k_274) (fun _ h9 => h9) d_Run_test_16 ?_
  refine lv_aload_n hx hb d_Run_test_19 rfl (lv_at hl 1 rfl) ?_
  refine xg_29_program hx hb hts hin_AddressStream hown hK hP (hts _ k_265) (fun _ h9 => h9) d_Run_test_20 ?_
  refine xg_1_bs hx hb hts hin_Program hown hK hP (hts _ k_94) (fun _ h9 => h9) d_Run_test_23 ?_
  refine lv_iload_n hx hb d_Run_test_26 rfl (lv_at hl 2 rfl) ?_
  obtain ⟨hi, h⟩ := gin_e h
  refine xl_2 hx hb hK hP hi d_Run_test_27 ?_
  obtain ⟨hi, h⟩ := gin_e h
  refine xl_20 hx hb hK hP hi d_Run_test_28 ?_
  refine lv_istore_n (lv' := [(3, .int (z0.2 20 (z0.2 2 x1.toNatClampNeg).toNatClampNeg)), (2, .int (z0.2 20 (z0.2 1 x1.toNatClampNeg).toNatClampNeg)), (0, .ref (ad 29)), (1, .int x1)]) hx hb d_Run_test_29 rfl hl (by decide) rfl (fun ls hl => ?_)
  refine lv_aload_n hx hb d_Run_test_30 rfl (lv_at hl 2 rfl) ?_
  refine xg_29_program hx hb hts hin_AddressStream hown hK hP (hts _ k_265) (fun _ h9 => h9) d_Run_test_31 ?_
  refine xg_1_kinds hx hb hts hin_Program hown hK hP (hts _ k_87) (fun _ h9 => h9) d_Run_test_34 ?_
  refine lv_iload_n hx hb d_Run_test_37 rfl (lv_at hl 3 rfl) ?_
  obtain ⟨hi, h⟩ := gin_e h
  refine xl_0 hx hb hK hP hi d_Run_test_38 ?_
  refine lv_bipush (v := 6) hx hb d_Run_test_39 (by decide) ?_
  refine lv_icmp_ne (tgt := 57) hx hb d_Run_test_41 (by decide) (fun hc => ?_) (fun hc => ?_)
  · replace h := if_f hc h
    refine lv_iload_n hx hb d_Run_test_57 rfl (lv_at hl 1 rfl) ?_
    refine lv_iload_n hx hb d_Run_test_58 rfl (lv_at hl 0 rfl) ?_
    refine lv_icmp_eq (tgt := 66) hx hb d_Run_test_59 (by decide) (fun hc => ?_) (fun hc => ?_)
    · replace h := if_t hc h
      refine lv_iconst (v := 0) hx hb d_Run_test_66 (by decide) ?_
      exact q_zret hx hb hr hlocks h hP hD hS d_Run_test_67
    · replace h := if_f hc h
      refine lv_iconst (v := 1) hx hb d_Run_test_62 (by decide) ?_
      refine lv_goto (tgt := 67) hx hb d_Run_test_63 (by decide) ?_
      exact q_zret hx hb hr hlocks h hP hD hS d_Run_test_67
  · replace h := if_t hc h
    refine lv_iload_n hx hb d_Run_test_44 rfl (lv_at hl 1 rfl) ?_
    refine lv_iload_n hx hb d_Run_test_45 rfl (lv_at hl 0 rfl) ?_
    refine lv_icmp_ge (tgt := 53) hx hb d_Run_test_46 (by decide) (fun hc => ?_) (fun hc => ?_)
    · replace h := if_t hc h
      refine lv_iconst (v := 0) hx hb d_Run_test_53 (by decide) ?_
      refine lv_goto (tgt := 67) hx hb d_Run_test_54 (by decide) ?_
      exact q_zret hx hb hr hlocks h hP hD hS d_Run_test_67
    · replace h := if_f hc h
      refine lv_iconst (v := 1) hx hb d_Run_test_49 (by decide) ?_
      refine lv_goto (tgt := 67) hx hb d_Run_test_50 (by decide) ?_
      exact q_zret hx hb hr hlocks h hP hD hS d_Run_test_67
def x_Stream_sendOutcome_29_17_16 (z0 : ST) (y1 y2 y3 : Int32) : OR := obn (x_Fifo_put_17 z0 y3) (fun r1 z1 => obn (x_Run_behind_29 z1 y1 y2) (fun r2 z2 => obn (x_Stream_leaveFor_29 z2 r2) (fun r3 z3 => gib r3 (some (r3, z3)))))
def x_Stream_sendOutcome_29_17 (z0 : ST) (x1 : Int32) : OR := obn (x_Run_test_29 z0 x1) (fun r4 z4 => if r4 = 0 then (x_Stream_sendOutcome_29_17_16 z4 x1 r4 0) else (x_Stream_sendOutcome_29_17_16 z4 x1 r4 1))
set_option maxRecDepth 100000 in
set_option maxHeartbeats 4000000 in
theorem c_x_Stream_sendOutcome_29_17 (l : Launch) (dC : Nat → ClassId) (dI : Nat → Nat → Nat) (cI cZ : ClassId) (ad : Nat → Nat) (z0 : ST) (x1 : Int32) (R : Int32 × ST) (h : x_Stream_sendOutcome_29_17 z0 x1 = some R) : qMi l y_Stream_sendOutcome w_Stream_sendOutcome 2 41 (KX dC dI cI cZ) (dC, dI) q_cl (wX cI cZ ad) [.ref (ad 29), .int x1, .ref (ad 17)] z0 R := by
  intro sz
  refine Met.ofW (cc := b_Stream_sendOutcome) (maxL := 4) (ret := (some .boolean)) (by decide) rfl ?_
  intro p e s m args below meth c s₁ B hml hv
  obtain ⟨rfl, hsz, hP, hKK, hD0⟩ := hv
  have hx := B.exec
  have hb := B.bytes
  have hr := B.returns
  have hts : ∀ w ∈ q_big, w.before _ s = true := fun w h => atoms_spec (ws := w_Stream_sendOutcome) B.pre w (List.mem_cons_of_mem _ h)
  have hown : s.vm.findClass "SlippedStreams$Stream" = some m.cls := findClass_of_methodNamed B.named
  have hlocks := B.notSynchronized
  subst hsz
  have hD := hD0.self (sz := s.heap.size)
  generalize hAe : va_A (wX cI cZ ad z0) s.heap.size = A at hD ⊢
  have hA : ∀ q : Nat, s.heap.size ≤ q → A q := fun q h => by rw [← hAe]; exact Or.inr h
  have hS : va_S A s.heap s.heap [] := va_S.rf
  have hK := hKK.1
  have hl := lv_entry ([.ref (ad 29), .int x1, .ref (ad 17)]) (n := 4) (Nat.le_of_ble_eq_true rfl)
  rw [lg_entry_eq]
  generalize (lg_sl ([.ref (ad 29), .int x1, .ref (ad 17)]) ++ List.replicate (4 - (lg_sl ([.ref (ad 29), .int x1, .ref (ad 17)])).length) Slot.unset).toArray = ls at hl ⊢
  have hl : lv_has ls 4 [(0, .ref (ad 29)), (1, .int x1), (2, .ref (ad 17))] := hl
  have jp_16 : ∀ (z0 : ST) (y1 y2 y3 : Int32) (H : Heap) (locs : List Loc) (ls : Array Slot), x_Stream_sendOutcome_29_17_16 z0 y1 y2 y3 = some R → va_P (dC, dI) q_cl (wX cI cZ ad z0) H → va_D A (wX cI cZ ad z0) → va_S A s.heap H locs → lv_has ls 4 [(0, .ref (ad 29)), (1, .int y1), (2, .ref (ad 17)), (3, .int y2)] → qWi p l e w_Stream_sendOutcome 2 41 s m [.ref (ad 29), .int x1, .ref (ad 17)] below meth c (dC, dI) q_cl (wX cI cZ ad) A R H locs (F0 m 16 ls [.int y3, .ref (ad 17)]) := by
    intro z0 y1 y2 y3 H locs ls h hP hD hS hl
    unfold x_Stream_sendOutcome_29_17_16 at h
    obtain ⟨r1, z1, hc1, h⟩ := obn_e h
    refine q_gov (va_runV (As := [.int y3]) (rest := []) ⟨hx, hb, hml, hown, hts⟩ (c_x_Fifo_put_17 l dC dI cI cZ ad z0 y3 _ hc1 _) (cwV 1 hts (q_goodL _ (q_l4 k_612 k_613 k_614 k_56) k_615) rfl rfl rfl (by decide +kernel) ⟨Nat.le_of_ble_eq_true rfl, Nat.le_of_ble_eq_true rfl⟩) (q_preV qok hKK hP hD (va_recv (ci := 3) (q0 := 17) hK hP rfl rfl)) rfl rfl hl.1 rfl (lv_room (Nat.le_of_ble_eq_true rfl)) d_Stream_sendOutcome_16 ⟨Nat.le_refl _, Nat.le_refl _⟩) hD hS hA (fun H locs hP hD hS => ?_)
    refine lv_aload_n hx hb d_Stream_sendOutcome_19 rfl (lv_at hl 0 rfl) ?_
    refine lv_aload_n hx hb d_Stream_sendOutcome_20 rfl (lv_at hl 0 rfl) ?_
    refine lv_iload_n hx hb d_Stream_sendOutcome_21 rfl (lv_at hl 1 rfl) ?_
    refine lv_iload_n hx hb d_Stream_sendOutcome_22 rfl (lv_at hl 3 rfl) ?_
    obtain ⟨r2, z2, hc2, h⟩ := obn_e h
    refine q_goi (va_runU (As := [.int y1, .int y2]) (rest := [.ref (ad 29)]) ⟨hx, hb, hml, hown, hts⟩ (c_x_Run_behind_29 l dC dI cI cZ ad z1 y1 y2 _ hc2 _) (va_cwU 2 hts (q_goodL _ (q_l5 k_616 k_617 k_619 k_621 k_58) k_622) rfl rfl rfl rfl (by decide +kernel) ⟨Nat.le_of_ble_eq_true rfl, Nat.le_of_ble_eq_true rfl⟩) (q_preV qok hKK hP hD (va_recv (ci := 5) (q0 := 29) hK hP rfl rfl)) rfl rfl hl.1 rfl (lv_room (Nat.le_of_ble_eq_true rfl)) d_Stream_sendOutcome_23 ⟨Nat.le_refl _, Nat.le_refl _⟩) hD hS hA (fun H locs hP hD hS => ?_)
    obtain ⟨r3, z3, hc3, h⟩ := obn_e h
    refine q_goi (va_runU (As := [.int r2]) (rest := []) ⟨hx, hb, hml, hown, hts⟩ (c_x_Stream_leaveFor_29 l dC dI cI cZ ad z2 r2 _ hc3 _) (va_cwU 1 hts (q_goodL _ (q_l5 k_623 k_1085 k_1086 k_567 k_59) k_568) rfl rfl rfl rfl (by decide +kernel) ⟨Nat.le_of_ble_eq_true rfl, Nat.le_of_ble_eq_true rfl⟩) (q_preV qok hKK hP hD (va_recv (ci := 5) (q0 := 29) hK hP rfl rfl)) rfl rfl hl.1 rfl (lv_room (Nat.le_of_ble_eq_true rfl)) d_Stream_sendOutcome_26 ⟨Nat.le_refl _, Nat.le_refl _⟩) hD hS hA (fun H locs hP hD hS => ?_)
    exact q_zret hx hb hr hlocks h hP hD hS d_Stream_sendOutcome_29
  unfold x_Stream_sendOutcome_29_17 at h
  refine lv_aload_n hx hb d_Stream_sendOutcome_0 rfl (lv_at hl 0 rfl) ?_
  refine lv_iload_n hx hb d_Stream_sendOutcome_1 rfl (lv_at hl 1 rfl) ?_
  obtain ⟨r4, z4, hc4, h⟩ := obn_e h
  refine q_goi (va_runU (As := [.int x1]) (rest := []) ⟨hx, hb, hml, hown, hts⟩ (c_x_Run_test_29 l dC dI cI cZ ad z0 x1 _ hc4 _) (va_cwU 1 hts (q_goodL _ (q_l5 k_605 k_606 k_608 k_610 k_58) k_611) rfl rfl rfl rfl (by decide +kernel) ⟨Nat.le_of_ble_eq_true rfl, Nat.le_of_ble_eq_true rfl⟩) (q_preV qok hKK hP hD (va_recv (ci := 5) (q0 := 29) hK hP rfl rfl)) rfl rfl hl.1 rfl (lv_room (Nat.le_of_ble_eq_true rfl)) d_Stream_sendOutcome_2 ⟨Nat.le_refl _, Nat.le_refl _⟩) hD hS hA (fun H locs hP hD hS => ?_)
  refine lv_istore_n (lv' := [(3, .int r4), (0, .ref (ad 29)), (1, .int x1), (2, .ref (ad 17))]) hx hb d_Stream_sendOutcome_5 rfl hl (by decide) rfl (fun ls hl => ?_)
  refine lv_aload_n hx hb d_Stream_sendOutcome_6 rfl (lv_at hl 3 rfl) ?_
  refine lv_iload_n hx hb d_Stream_sendOutcome_7 rfl (lv_at hl 0 rfl) ?_
  refine lv_if_eq (tgt := 15) hx hb d_Stream_sendOutcome_8 (by decide) (fun hc => ?_) (fun hc => ?_)
  · replace h := if_t hc h
    refine lv_iconst (v := 0) hx hb d_Stream_sendOutcome_15 (by decide) ?_
    exact jp_16 z4 x1 r4 0 _ _ _ h hP hD hS (lv_sub hl [1, 2, 3, 0] rfl)
  · replace h := if_f hc h
    refine lv_iconst (v := 1) hx hb d_Stream_sendOutcome_11 (by decide) ?_
    refine lv_goto (tgt := 16) hx hb d_Stream_sendOutcome_12 (by decide) ?_
    exact jp_16 z4 x1 r4 1 _ _ _ h hP hD hS (lv_sub hl [1, 2, 3, 0] rfl)
def x_AddressStream_load_29 (z0 : ST) (x1 : Int32) : OR := obn (x_Run_wordAddress_29 z0 x1) (fun r1 z1 => obn (x_StoreList_holds_25 z1 r1) (fun r2 z2 => if r2 = 0 then (gin x1 24 (gin r1 32 (gin (z2.2 1 x1.toNatClampNeg) 8 (bnd (stA z2 20 (upd (z2.2 20) (z2.2 1 x1.toNatClampNeg).toNatClampNeg (z2.2 11 r1.toNatClampNeg))) (fun z3 => obn (x_Stream_leaveFor_29 z3 (x1 + 1)) (fun r4 z4 => gib r4 (some (r4, z4)))))))) else (gib 0 (some (0, z2)))))
set_option maxRecDepth 100000 in
set_option maxHeartbeats 4000000 in
theorem c_x_AddressStream_load_29 (l : Launch) (dC : Nat → ClassId) (dI : Nat → Nat → Nat) (cI cZ : ClassId) (ad : Nat → Nat) (z0 : ST) (x1 : Int32) (R : Int32 × ST) (h : x_AddressStream_load_29 z0 x1 = some R) : qMi l y_AddressStream_load w_AddressStream_load 2 43 (KX dC dI cI cZ) (dC, dI) q_cl (wX cI cZ ad) [.ref (ad 29), .int x1] z0 R := by
  intro sz
  refine Met.ofW (cc := b_AddressStream_load) (maxL := 3) (ret := (some .boolean)) (by decide) rfl ?_
  intro p e s m args below meth c s₁ B hml hv
  obtain ⟨rfl, hsz, hP, hKK, hD0⟩ := hv
  have hx := B.exec
  have hb := B.bytes
  have hr := B.returns
  have hts : ∀ w ∈ q_big, w.before _ s = true := fun w h => atoms_spec (ws := w_AddressStream_load) B.pre w (List.mem_cons_of_mem _ h)
  have hown : s.vm.findClass "SlippedStreams$AddressStream" = some m.cls := findClass_of_methodNamed B.named
  have hlocks := B.notSynchronized
  subst hsz
  have hD := hD0.self (sz := s.heap.size)
  generalize hAe : va_A (wX cI cZ ad z0) s.heap.size = A at hD ⊢
  have hA : ∀ q : Nat, s.heap.size ≤ q → A q := fun q h => by rw [← hAe]; exact Or.inr h
  have hS : va_S A s.heap s.heap [] := va_S.rf
  have hK := hKK.1
  have hl := lv_entry ([.ref (ad 29), .int x1]) (n := 3) (Nat.le_of_ble_eq_true rfl)
  rw [lg_entry_eq]
  generalize (lg_sl ([.ref (ad 29), .int x1]) ++ List.replicate (3 - (lg_sl ([.ref (ad 29), .int x1])).length) Slot.unset).toArray = ls at hl ⊢
  have hl : lv_has ls 3 [(0, .ref (ad 29)), (1, .int x1)] := hl
  unfold x_AddressStream_load_29 at h
  refine lv_aload_n hx hb d_AddressStream_load_0 rfl (lv_at hl 0 rfl) ?_
  refine lv_iload_n hx hb d_AddressStream_load_1 rfl (lv_at hl 1 rfl) ?_
  obtain ⟨r1, z1, hc1, h⟩ := obn_e h
  refine q_goi (va_runU (As := [.int x1]) (rest := []) ⟨hx, hb, hml, hown, hts⟩ (c_x_Run_wordAddress_29 l dC dI cI cZ ad z0 x1 _ hc1 _) (va_cwU 1 hts (q_goodL _ (q_l5 k_549 k_550 k_552 k_553 k_58) k_554) rfl rfl rfl rfl (by decide +kernel) ⟨Nat.le_of_ble_eq_true rfl, Nat.le_of_ble_eq_true rfl⟩) (q_preV qok hKK hP hD (va_recv (ci := 5) (q0 := 29) hK hP rfl rfl)) rfl rfl hl.1 rfl (lv_room (Nat.le_of_ble_eq_true rfl)) d_AddressStream_load_2 ⟨Nat.le_refl _, Nat.le_refl _⟩) hD hS hA (fun H locs hP hD hS => ?_)
  refine lv_istore_n (lv' := [(2, .int r1), (0, .ref (ad 29)), (1, .int x1)]) hx hb d_AddressStream_load_5 rfl hl (by decide) rfl (fun ls hl => ?_)
  refine lv_aload_n hx hb d_AddressStream_load_6 rfl (lv_at hl 1 rfl) ?_
  refine xg_29_link hx hb hts hin_AddressStream hown hK hP (hts _ k_257) (fun x9 h9 => u_same (hts _ k_258) x9 h9) d_AddressStream_load_7 ?_
  refine xg_13_stores hx hb hts hin_Link hown hK hP (hts _ k_223) (fun _ h9 => h9) d_AddressStream_load_10 ?_
  refine lv_iload_n hx hb d_AddressStream_load_13 rfl (lv_at hl 0 rfl) ?_
  obtain ⟨r2, z2, hc2, h⟩ := obn_e h
  refine q_goi (va_runV (As := [.int r1]) (rest := []) ⟨hx, hb, hml, hown, hts⟩ (c_x_StoreList_holds_25 l dC dI cI cZ ad z1 r1 _ hc2 _) (cwV 1 hts (q_goodL _ (q_l4 k_555 k_556 k_557 k_57) k_558) rfl rfl rfl (by decide +kernel) ⟨Nat.le_of_ble_eq_true rfl, Nat.le_of_ble_eq_true rfl⟩) (q_preV qok hKK hP hD (va_recv (ci := 4) (q0 := 25) hK hP rfl rfl)) rfl rfl hl.1 rfl (lv_room (Nat.le_of_ble_eq_true rfl)) d_AddressStream_load_14 ⟨Nat.le_refl _, Nat.le_refl _⟩) hD hS hA (fun H locs hP hD hS => ?_)
  refine lv_if_eq (tgt := 22) hx hb d_AddressStream_load_17 (by decide) (fun hc => ?_) (fun hc => ?_)
  · replace h := if_t hc h
    refine lv_aload_n hx hb d_AddressStream_load_22 rfl (lv_at hl 1 rfl) ?_
    refine xg_29_registers hx hb hts hin_AddressStream hown hK hP (hts _ k_281) (fun x9 h9 => u_same (hts _ k_282) x9 h9) d_AddressStream_load_23 ?_
    refine lv_aload_n hx hb d_AddressStream_load_26 rfl (lv_at hl 1 rfl) ?_
    refine xg_29_program hx hb hts hin_AddressStream hown hK hP (hts _ k_266) (fun x9 h9 => u_same (hts _ k_267) x9 h9) d_AddressStream_load_27 ?_
    refine xg_1_as hx hb hts hin_Program hown hK hP (hts _ k_91) (fun _ h9 => h9) d_AddressStream_load_30 ?_
    refine lv_iload_n hx hb d_AddressStream_load_33 rfl (lv_at hl 2 rfl) ?_
    obtain ⟨hi, h⟩ := gin_e h
    refine xl_1 hx hb hK hP hi d_AddressStream_load_34 ?_
    refine lv_aload_n hx hb d_AddressStream_load_35 rfl (lv_at hl 1 rfl) ?_
    refine xg_29_link hx hb hts hin_AddressStream hown hK hP (hts _ k_257) (fun x9 h9 => u_same (hts _ k_258) x9 h9) d_AddressStream_load_36 ?_
    refine xg_13_memory hx hb hts hin_Link hown hK hP (hts _ k_200) (fun _ h9 => h9) d_AddressStream_load_39 ?_
    refine lv_iload_n hx hb d_AddressStream_load_42 rfl (lv_at hl 0 rfl) ?_
    obtain ⟨hi, h⟩ := gin_e h
    refine xl_11 hx hb hK hP hi d_AddressStream_load_43 ?_
    obtain ⟨hi, h⟩ := gin_e h
    obtain ⟨z3, e3, h⟩ := bnd_e h
    refine xs_20 hx hb hK hP hD hS hi d_AddressStream_load_44 e3 (fun H locs hP hD hS => ?_)
    refine lv_aload_n hx hb d_AddressStream_load_45 rfl (lv_at hl 1 rfl) ?_
    refine lv_iload_n hx hb d_AddressStream_load_46 rfl (lv_at hl 2 rfl) ?_
    refine lv_iconst (v := 1) hx hb d_AddressStream_load_47 (by decide) ?_
    refine lv_iadd hx hb d_AddressStream_load_48 ?_
    obtain ⟨r4, z4, hc4, h⟩ := obn_e h
    refine q_goi (va_runU (As := [.int (x1 + 1)]) (rest := []) ⟨hx, hb, hml, hown, hts⟩ (c_x_Stream_leaveFor_29 l dC dI cI cZ ad z3 (x1 + 1) _ hc4 _) (va_cwU 1 hts (q_goodL _ (q_l5 k_563 k_564 k_566 k_567 k_59) k_568) rfl rfl rfl rfl (by decide +kernel) ⟨Nat.le_of_ble_eq_true rfl, Nat.le_of_ble_eq_true rfl⟩) (q_preV qok hKK hP hD (va_recv (ci := 5) (q0 := 29) hK hP rfl rfl)) rfl rfl hl.1 rfl (lv_room (Nat.le_of_ble_eq_true rfl)) d_AddressStream_load_49 ⟨Nat.le_refl _, Nat.le_refl _⟩) hD hS hA (fun H locs hP hD hS => ?_)
    exact q_zret hx hb hr hlocks h hP hD hS d_AddressStream_load_52
  · replace h := if_f hc h
    refine lv_iconst (v := 0) hx hb d_AddressStream_load_20 (by decide) ?_
    exact q_zret hx hb hr hlocks h hP hD hS d_AddressStream_load_21
def x_StoreList_isFull_25 (z0 : ST) : OR := if (z0.1 14) < 6 then (gib 0 (some (0, z0))) else (gib 1 (some (1, z0)))
set_option maxRecDepth 100000 in
set_option maxHeartbeats 4000000 in
theorem c_x_StoreList_isFull_25 (l : Launch) (dC : Nat → ClassId) (dI : Nat → Nat → Nat) (cI cZ : ClassId) (ad : Nat → Nat) (z0 : ST) (R : Int32 × ST) (h : x_StoreList_isFull_25 z0 = some R) : qMi l y_StoreList_isFull w_StoreList_isFull 0 0 (KX dC dI cI cZ) (dC, dI) q_cl (wX cI cZ ad) [.ref (ad 25)] z0 R := by
  intro sz
  refine Met.ofW (cc := b_StoreList_isFull) (maxL := 1) (ret := (some .boolean)) (by decide) rfl ?_
  intro p e s m args below meth c s₁ B hml hv
  obtain ⟨rfl, hsz, hP, hKK, hD0⟩ := hv
  have hx := B.exec
  have hb := B.bytes
  have hr := B.returns
  have hts : ∀ w ∈ q_big, w.before _ s = true := fun w h => atoms_spec (ws := w_StoreList_isFull) B.pre w (List.mem_cons_of_mem _ h)
  have hown : s.vm.findClass "SlippedStreams$StoreList" = some m.cls := findClass_of_methodNamed B.named
  have hlocks := B.notSynchronized
  subst hsz
  have hD := hD0.self (sz := s.heap.size)
  generalize hAe : va_A (wX cI cZ ad z0) s.heap.size = A at hD ⊢
  have hA : ∀ q : Nat, s.heap.size ≤ q → A q := fun q h => by rw [← hAe]; exact Or.inr h
  have hS : va_S A s.heap s.heap [] := va_S.rf
  have hK := hKK.1
  have hl := lv_entry ([.ref (ad 25)]) (n := 1) (Nat.le_of_ble_eq_true rfl)
  rw [lg_entry_eq]
  generalize (lg_sl ([.ref (ad 25)]) ++ List.replicate (1 - (lg_sl ([.ref (ad 25)])).length) Slot.unset).toArray = ls at hl ⊢
  have hl : lv_has ls 1 [(0, .ref (ad 25))] := hl
  unfold x_StoreList_isFull_25 at h
  refine lv_aload_n hx hb d_StoreList_isFull_0 rfl (lv_at hl 0 rfl) ?_
  refine xg_25_size hx hb hts hin_StoreList hown hK hP (hts _ k_184) (fun _ h9 => h9) d_StoreList_isFull_1 ?_
  refine lv_bipush (v := 6) hx hb d_StoreList_isFull_4 (by decide) ?_
  refine lv_icmp_lt (tgt := 13) hx hb d_StoreList_isFull_6 (by decide) (fun hc => ?_) (fun hc => ?_)
  · replace h := if_t hc h
    refine lv_iconst (v := 0) hx hb d_StoreList_isFull_13 (by decide) ?_
    exact q_zret hx hb hr hlocks h hP hD hS d_StoreList_isFull_14
  · replace h := if_f hc h
    refine lv_iconst (v := 1) hx hb d_StoreList_isFull_9 (by decide) ?_
    refine lv_goto (tgt := 14) hx hb d_StoreList_isFull_10 (by decide) ?_
    exact q_zret hx hb hr hlocks h hP hD hS d_StoreList_isFull_14
def x_StoreList_enter_25 (z0 : ST) (x1 : Int32) : OR := obn (x_StoreList_slot_25 z0 (z0.1 14)) (fun r1 z1 => gin r1 6 (bnd (stA z1 17 (upd (z1.2 17) r1.toNatClampNeg x1)) (fun z2 => gin r1 6 (gib 0 (bnd (stA z2 19 (upd (z2.2 19) r1.toNatClampNeg 0)) (fun z3 => bnd (stI z3 14 ((z3.1 14) + 1)) (fun z4 => some (0, z4))))))))
set_option maxRecDepth 100000 in
set_option maxHeartbeats 4000000 in
theorem c_x_StoreList_enter_25 (l : Launch) (dC : Nat → ClassId) (dI : Nat → Nat → Nat) (cI cZ : ClassId) (ad : Nat → Nat) (z0 : ST) (x1 : Int32) (R : Int32 × ST) (h : x_StoreList_enter_25 z0 x1 = some R) : qMv l y_StoreList_enter w_StoreList_enter 1 21 (KX dC dI cI cZ) (dC, dI) q_cl (wX cI cZ ad) [.ref (ad 25), .int x1] z0 R := by
  intro sz
  refine Met.ofW (cc := b_StoreList_enter) (maxL := 3) (ret := none) (by decide) rfl ?_
  intro p e s m args below meth c s₁ B hml hv
  obtain ⟨rfl, hsz, hP, hKK, hD0⟩ := hv
  have hx := B.exec
  have hb := B.bytes
  have hr := B.returns
  have hts : ∀ w ∈ q_big, w.before _ s = true := fun w h => atoms_spec (ws := w_StoreList_enter) B.pre w (List.mem_cons_of_mem _ h)
  have hown : s.vm.findClass "SlippedStreams$StoreList" = some m.cls := findClass_of_methodNamed B.named
  have hlocks := B.notSynchronized
  subst hsz
  have hD := hD0.self (sz := s.heap.size)
  generalize hAe : va_A (wX cI cZ ad z0) s.heap.size = A at hD ⊢
  have hA : ∀ q : Nat, s.heap.size ≤ q → A q := fun q h => by rw [← hAe]; exact Or.inr h
  have hS : va_S A s.heap s.heap [] := va_S.rf
  have hK := hKK.1
  have hl := lv_entry ([.ref (ad 25), .int x1]) (n := 3) (Nat.le_of_ble_eq_true rfl)
  rw [lg_entry_eq]
  generalize (lg_sl ([.ref (ad 25), .int x1]) ++ List.replicate (3 - (lg_sl ([.ref (ad 25), .int x1])).length) Slot.unset).toArray = ls at hl ⊢
  have hl : lv_has ls 3 [(0, .ref (ad 25)), (1, .int x1)] := hl
  unfold x_StoreList_enter_25 at h
  refine lv_aload_n hx hb d_StoreList_enter_0 rfl (lv_at hl 0 rfl) ?_
  refine lv_aload_n hx hb d_StoreList_enter_1 rfl (lv_at hl 0 rfl) ?_
  refine xg_25_size hx hb hts hin_StoreList hown hK hP (hts _ k_184) (fun _ h9 => h9) d_StoreList_enter_2 ?_
  obtain ⟨r1, z1, hc1, h⟩ := obn_e h
  refine q_goi (va_runV (As := [.int (z0.1 14)]) (rest := []) ⟨hx, hb, hml, hown, hts⟩ (c_x_StoreList_slot_25 l dC dI cI cZ ad z0 (z0.1 14) _ hc1 _) (cwV 1 hts (q_goodL _ (q_l4 k_559 k_561 k_15 k_57) k_562) rfl rfl rfl (by decide +kernel) ⟨Nat.le_of_ble_eq_true rfl, Nat.le_of_ble_eq_true rfl⟩) (q_preV qok hKK hP hD (va_recv (ci := 4) (q0 := 25) hK hP rfl rfl)) rfl rfl hl.1 rfl (lv_room (Nat.le_of_ble_eq_true rfl)) d_StoreList_enter_5 ⟨Nat.le_refl _, Nat.le_refl _⟩) hD hS hA (fun H locs hP hD hS => ?_)
  refine lv_istore_n (lv' := [(2, .int r1), (0, .ref (ad 25)), (1, .int x1)]) hx hb d_StoreList_enter_8 rfl hl (by decide) rfl (fun ls hl => ?_)
  refine lv_aload_n hx hb d_StoreList_enter_9 rfl (lv_at hl 1 rfl) ?_
  refine xg_25_addresses hx hb hts hin_StoreList hown hK hP (hts _ k_180) (fun _ h9 => h9) d_StoreList_enter_10 ?_
  refine lv_iload_n hx hb d_StoreList_enter_13 rfl (lv_at hl 0 rfl) ?_
  refine lv_iload_n hx hb d_StoreList_enter_14 rfl (lv_at hl 2 rfl) ?_
  obtain ⟨hi, h⟩ := gin_e h
  obtain ⟨z2, e2, h⟩ := bnd_e h
  refine xs_17 hx hb hK hP hD hS hi d_StoreList_enter_15 e2 (fun H locs hP hD hS => ?_)
  refine lv_aload_n hx hb d_StoreList_enter_16 rfl (lv_at hl 1 rfl) ?_
  refine xg_25_known hx hb hts hin_StoreList hown hK hP (hts _ k_182) (fun _ h9 => h9) d_StoreList_enter_17 ?_
  refine lv_iload_n hx hb d_StoreList_enter_20 rfl (lv_at hl 0 rfl) ?_
  refine lv_iconst (v := 0) hx hb d_StoreList_enter_21 (by decide) ?_
  obtain ⟨hi, h⟩ := gin_e h
  obtain ⟨hv, h⟩ := gib_e h
  obtain ⟨z3, e3, h⟩ := bnd_e h
  refine xs_19 hx hb hK hP hD hS hi hv d_StoreList_enter_22 e3 (fun H locs hP hD hS => ?_)
  refine lv_aload_n hx hb d_StoreList_enter_23 rfl (lv_at hl 1 rfl) ?_
  refine lv_dup hx hb d_StoreList_enter_24 rfl ?_
  refine xg_25_size hx hb hts hin_StoreList hown hK hP (hts _ k_184) (fun _ h9 => h9) d_StoreList_enter_25 ?_
  refine lv_iconst (v := 1) hx hb d_StoreList_enter_28 (by decide) ?_
  refine lv_iadd hx hb d_StoreList_enter_29 ?_
  obtain ⟨z4, e4, h⟩ := bnd_e h
  refine xp_25_size hx hb hts hin_StoreList hown hK hP hD hS (hts _ k_184) (fun _ h9 => h9) d_StoreList_enter_30 e4 (fun H locs hP hD hS => ?_)
  exact q_vret hx hb hr hlocks h hP hD hS d_StoreList_enter_33
def x_Fifo_take_16_35 (z0 : ST) (y1 y2 : Int32) : OR := bnd (stI z0 5 y2) (fun z1 => bnd (stI z1 6 ((z1.1 6) - 1)) (fun z2 => some (y1, z2)))
def x_Fifo_take_16 (z0 : ST) : OR := gin (z0.1 5) 4 (if 4 ≤ ((z0.1 5) + 1) then (x_Fifo_take_16_35 z0 (z0.2 13 (z0.1 5).toNatClampNeg) 0) else (x_Fifo_take_16_35 z0 (z0.2 13 (z0.1 5).toNatClampNeg) ((z0.1 5) + 1)))
set_option maxRecDepth 100000 in
set_option maxHeartbeats 4000000 in
theorem c_x_Fifo_take_16 (l : Launch) (dC : Nat → ClassId) (dI : Nat → Nat → Nat) (cI cZ : ClassId) (ad : Nat → Nat) (z0 : ST) (R : Int32 × ST) (h : x_Fifo_take_16 z0 = some R) : qMi l y_Fifo_take w_Fifo_take 0 0 (KX dC dI cI cZ) (dC, dI) q_cl (wX cI cZ ad) [.ref (ad 16)] z0 R := by
  intro sz
  refine Met.ofW (cc := b_Fifo_take) (maxL := 2) (ret := (some .int)) (by decide) rfl ?_
  intro p e s m args below meth c s₁ B hml hv
  obtain ⟨rfl, hsz, hP, hKK, hD0⟩ := hv
  have hx := B.exec
  have hb := B.bytes
  have hr := B.returns
  have hts : ∀ w ∈ q_big, w.before _ s = true := fun w h => atoms_spec (ws := w_Fifo_take) B.pre w (List.mem_cons_of_mem _ h)
  have hown : s.vm.findClass "SlippedStreams$Fifo" = some m.cls := findClass_of_methodNamed B.named
  have hlocks := B.notSynchronized
  subst hsz
  have hD := hD0.self (sz := s.heap.size)
  generalize hAe : va_A (wX cI cZ ad z0) s.heap.size = A at hD ⊢
  have hA : ∀ q : Nat, s.heap.size ≤ q → A q := fun q h => by rw [← hAe]; exact Or.inr h
  have hS : va_S A s.heap s.heap [] := va_S.rf
  have hK := hKK.1
  have hl := lv_entry ([.ref (ad 16)]) (n := 2) (Nat.le_of_ble_eq_true rfl)
  rw [lg_entry_eq]
  generalize (lg_sl ([.ref (ad 16)]) ++ List.replicate (2 - (lg_sl ([.ref (ad 16)])).length) Slot.unset).toArray = ls at hl ⊢
  have hl : lv_has ls 2 [(0, .ref (ad 16))] := hl
  have jp_35 : ∀ (z0 : ST) (y1 y2 : Int32) (H : Heap) (locs : List Loc) (ls : Array Slot), x_Fifo_take_16_35 z0 y1 y2 = some R → va_P (dC, dI) q_cl (wX cI cZ ad z0) H → va_D A (wX cI cZ ad z0) → va_S A s.heap H locs → lv_has ls 2 [(0, .ref (ad 16)), (1, .int y1)] → qWi p l e w_Fifo_take 0 0 s m [.ref (ad 16)] below meth c (dC, dI) q_cl (wX cI cZ ad) A R H locs (F0 m 35 ls [.int y2, .ref (ad 16)]) := by
    intro z0 y1 y2 H locs ls h hP hD hS hl
    unfold x_Fifo_take_16_35 at h
    obtain ⟨z1, e1, h⟩ := bnd_e h
    refine xp_16_first hx hb hts hin_Fifo hown hK hP hD hS (hts _ k_160) (fun _ h9 => h9) d_Fifo_take_35 e1 (fun H locs hP hD hS => ?_)
    refine lv_aload_n hx hb d_Fifo_take_38 rfl (lv_at hl 0 rfl) ?_
    refine lv_dup hx hb d_Fifo_take_39 rfl ?_
    refine xg_16_size hx hb hts hin_Fifo hown hK hP (hts _ k_161) (fun _ h9 => h9) d_Fifo_take_40 ?_
    refine lv_iconst (v := 1) hx hb d_Fifo_take_43 (by decide) ?_
    refine lv_isub hx hb d_Fifo_take_44 ?_
    obtain ⟨z2, e2, h⟩ := bnd_e h
    refine xp_16_size hx hb hts hin_Fifo hown hK hP hD hS (hts _ k_161) (fun _ h9 => h9) d_Fifo_take_45 e2 (fun H locs hP hD hS => ?_)
    refine lv_iload_n hx hb d_Fifo_take_48 rfl (lv_at hl 1 rfl) ?_
    exact q_iret hx hb hr hlocks h hP hD hS d_Fifo_take_49
  unfold x_Fifo_take_16 at h
  refine lv_aload_n hx hb d_Fifo_take_0 rfl (lv_at hl 0 rfl) ?_
  refine xg_16_things hx hb hts hin_Fifo hown hK hP (hts _ k_159) (fun _ h9 => h9) d_Fifo_take_1 ?_
  refine lv_aload_n hx hb d_Fifo_take_4 rfl (lv_at hl 0 rfl) ?_
  refine xg_16_first hx hb hts hin_Fifo hown hK hP (hts _ k_160) (fun _ h9 => h9) d_Fifo_take_5 ?_
  obtain ⟨hi, h⟩ := gin_e h
  refine xl_13 hx hb hK hP hi d_Fifo_take_8 ?_
  refine lv_istore_n (lv' := [(1, .int (z0.2 13 (z0.1 5).toNatClampNeg)), (0, .ref (ad 16))]) hx hb d_Fifo_take_9 rfl hl (by decide) rfl (fun ls hl => ?_)
  refine lv_aload_n hx hb d_Fifo_take_10 rfl (lv_at hl 1 rfl) ?_
  refine lv_aload_n hx hb d_Fifo_take_11 rfl (lv_at hl 1 rfl) ?_
  refine xg_16_first hx hb hts hin_Fifo hown hK hP (hts _ k_160) (fun _ h9 => h9) d_Fifo_take_12 ?_
  refine lv_iconst (v := 1) hx hb d_Fifo_take_15 (by decide) ?_
  refine lv_iadd hx hb d_Fifo_take_16 ?_
  refine lv_aload_n hx hb d_Fifo_take_17 rfl (lv_at hl 1 rfl) ?_
  refine xg_16_things hx hb hts hin_Fifo hown hK hP (hts _ k_159) (fun _ h9 => h9) d_Fifo_take_18 ?_
  refine va_alen (v := 4) hx hb hK hP 21 0 rfl rfl rfl d_Fifo_take_21 ?_
  refine lv_icmp_ge (tgt := 34) hx hb d_Fifo_take_22 (by decide) (fun hc => ?_) (fun hc => ?_)
  · replace h := if_t hc h
    refine lv_iconst (v := 0) hx hb d_Fifo_take_34 (by decide) ?_
    exact jp_35 z0 (z0.2 13 (z0.1 5).toNatClampNeg) 0 _ _ _ h hP hD hS (lv_sub hl [1, 0] rfl)
  · replace h := if_f hc h
    refine lv_aload_n hx hb d_Fifo_take_25 rfl (lv_at hl 1 rfl) ?_
    refine xg_16_first hx hb hts hin_Fifo hown hK hP (hts _ k_160) (fun _ h9 => h9) d_Fifo_take_26 ?_
    refine lv_iconst (v := 1) hx hb d_Fifo_take_29 (by decide) ?_
    refine lv_iadd hx hb d_Fifo_take_30 ?_
    refine lv_goto (tgt := 35) hx hb d_Fifo_take_31 (by decide) ?_
    exact jp_35 z0 (z0.2 13 (z0.1 5).toNatClampNeg) ((z0.1 5) + 1) _ _ _ h hP hD hS (lv_sub hl [1, 0] rfl)
def x_StoreList_know_25_g0 (k : Nat → ST → Int32 → Int32 → OR) (z0 : ST) (y1 y2 : Int32) : OR := gin y1 6 (bnd (stA z0 18 (upd (z0.2 18) y1.toNatClampNeg y2)) (fun z1 => gin y1 6 (gib 1 (bnd (stA z1 19 (upd (z1.2 19) y1.toNatClampNeg 1)) (fun z2 => k 1 z2 y1 y2)))))
def x_StoreList_know_25_g14 (k : Nat → ST → Int32 → Int32 → OR) (z0 : ST) (y1 y2 : Int32) : OR := if (z0.1 14) ≤ 0 then (some (0, z0)) else (gin (z0.1 13) 6 (if (z0.2 19 (z0.1 13).toNatClampNeg) = 0 then (some (0, z0)) else (gin (z0.1 13) 6 (gin (z0.1 13) 6 (gin (z0.2 17 (z0.1 13).toNatClampNeg) 32 (bnd (stA z0 11 (upd (z0.2 11) (z0.2 17 (z0.1 13).toNatClampNeg).toNatClampNeg (z0.2 18 (z0.1 13).toNatClampNeg))) (fun z3 => bnd (stI z3 13 (((z3.1 13) + 1) - ((z3.1 13) + 1) / 6 * 6)) (fun z4 => bnd (stI z4 14 ((z4.1 14) - 1)) (fun z5 => k 1 z5 y1 y2)))))))))
def x_StoreList_know_25_g (k : Nat → ST → Int32 → Int32 → OR) (n : Nat) : ST → Int32 → Int32 → OR := match n with
  | 0 => x_StoreList_know_25_g0 k
  | 1 => x_StoreList_know_25_g14 k
  | _ => fun _ _ _ => none
def x_StoreList_know_25_f : Nat → Nat → ST → Int32 → Int32 → OR
  | 0 => fun _ _ _ _ => none
  | n + 1 => x_StoreList_know_25_g (x_StoreList_know_25_f n)
def x_StoreList_know_25 (z0 : ST) (x1 x2 : Int32) : OR := x_StoreList_know_25_f 4000 0 z0 x1 x2
set_option maxRecDepth 100000 in
set_option maxHeartbeats 4000000 in
theorem c_x_StoreList_know_25 (l : Launch) (dC : Nat → ClassId) (dI : Nat → Nat → Nat) (cI cZ : ClassId) (ad : Nat → Nat) (z0 : ST) (x1 x2 : Int32) (R : Int32 × ST) (h : x_StoreList_know_25 z0 x1 x2 = some R) : qMv l y_StoreList_know w_StoreList_know 0 0 (KX dC dI cI cZ) (dC, dI) q_cl (wX cI cZ ad) [.ref (ad 25), .int x1, .int x2] z0 R := by
  intro sz
  refine Met.ofW (cc := b_StoreList_know) (maxL := 3) (ret := none) (by decide) rfl ?_
  intro p e s m args below meth c s₁ B hml hv
  obtain ⟨rfl, hsz, hP, hKK, hD0⟩ := hv
  have hx := B.exec
  have hb := B.bytes
  have hr := B.returns
  have hts : ∀ w ∈ q_big, w.before _ s = true := fun w h => atoms_spec (ws := w_StoreList_know) B.pre w (List.mem_cons_of_mem _ h)
  have hown : s.vm.findClass "SlippedStreams$StoreList" = some m.cls := findClass_of_methodNamed B.named
  have hlocks := B.notSynchronized
  subst hsz
  have hD := hD0.self (sz := s.heap.size)
  generalize hAe : va_A (wX cI cZ ad z0) s.heap.size = A at hD ⊢
  have hA : ∀ q : Nat, s.heap.size ≤ q → A q := fun q h => by rw [← hAe]; exact Or.inr h
  have hS : va_S A s.heap s.heap [] := va_S.rf
  have hK := hKK.1
  have hl := lv_entry ([.ref (ad 25), .int x1, .int x2]) (n := 3) (Nat.le_of_ble_eq_true rfl)
  rw [lg_entry_eq]
  generalize (lg_sl ([.ref (ad 25), .int x1, .int x2]) ++ List.replicate (3 - (lg_sl ([.ref (ad 25), .int x1, .int x2])).length) Slot.unset).toArray = ls at hl ⊢
  have hl : lv_has ls 3 [(0, .ref (ad 25)), (1, .int x1), (2, .int x2)] := hl
  have key : ∀ n : Nat, (∀ (z0 : ST) (y1 y2 : Int32) (H : Heap) (locs : List Loc) (ls : Array Slot), x_StoreList_know_25_f n 0 z0 y1 y2 = some R → va_P (dC, dI) q_cl (wX cI cZ ad z0) H → va_D A (wX cI cZ ad z0) → va_S A s.heap H locs → lv_has ls 3 [(0, .ref (ad 25)), (1, .int y1), (2, .int y2)] → qWv p l e w_StoreList_know 0 0 s m [.ref (ad 25), .int x1, .int x2] below meth c (dC, dI) q_cl (wX cI cZ ad) A R H locs (F0 m 0 ls [])) ∧ (∀ (z0 : ST) (y1 y2 : Int32) (H : Heap) (locs : List Loc) (ls : Array Slot), x_StoreList_know_25_f n 1 z0 y1 y2 = some R → va_P (dC, dI) q_cl (wX cI cZ ad z0) H → va_D A (wX cI cZ ad z0) → va_S A s.heap H locs → lv_has ls 3 [(0, .ref (ad 25)), (1, .int y1), (2, .int y2)] → qWv p l e w_StoreList_know 0 0 s m [.ref (ad 25), .int x1, .int x2] below meth c (dC, dI) q_cl (wX cI cZ ad) A R H locs (F0 m 14 ls [])) := by
    intro n
    induction n with
    | zero => exact ⟨fun z0 y1 y2 H locs ls h hP hD hS hl => (by cases h), fun z0 y1 y2 H locs ls h hP hD hS hl => (by cases h)⟩
    | succ n ih =>
      obtain ⟨jp_0, jp_14⟩ := ih
      refine ⟨?_, ?_⟩
      · intro z0 y1 y2 H locs ls h hP hD hS hl
        replace h : x_StoreList_know_25_g0 (x_StoreList_know_25_f n) z0 y1 y2 = some R := h
        unfold x_StoreList_know_25_g0 at h
        refine lv_aload_n hx hb d_StoreList_know_0 rfl (lv_at hl 0 rfl) ?_
        refine xg_25_values hx hb hts hin_StoreList hown hK hP (hts _ k_181) (fun _ h9 => h9) d_StoreList_know_1 ?_
        refine lv_iload_n hx hb d_StoreList_know_4 rfl (lv_at hl 1 rfl) ?_
        refine lv_iload_n hx hb d_StoreList_know_5 rfl (lv_at hl 2 rfl) ?_
        obtain ⟨hi, h⟩ := gin_e h
        obtain ⟨z1, e1, h⟩ := bnd_e h
        refine xs_18 hx hb hK hP hD hS hi d_StoreList_know_6 e1 (fun H locs hP hD hS => ?_)
        refine lv_aload_n hx hb d_StoreList_know_7 rfl (lv_at hl 0 rfl) ?_
        refine xg_25_known hx hb hts hin_StoreList hown hK hP (hts _ k_182) (fun _ h9 => h9) d_StoreList_know_8 ?_
        refine lv_iload_n hx hb d_StoreList_know_11 rfl (lv_at hl 1 rfl) ?_
        refine lv_iconst (v := 1) hx hb d_StoreList_know_12 (by decide) ?_
        obtain ⟨hi, h⟩ := gin_e h
        obtain ⟨hv, h⟩ := gib_e h
        obtain ⟨z2, e2, h⟩ := bnd_e h
        refine xs_19 hx hb hK hP hD hS hi hv d_StoreList_know_13 e2 (fun H locs hP hD hS => ?_)
        exact jp_14 z2 y1 y2 _ _ _ h hP hD hS (lv_sub hl [0, 1, 2] rfl)
      · intro z0 y1 y2 H locs ls h hP hD hS hl
        replace h : x_StoreList_know_25_g14 (x_StoreList_know_25_f n) z0 y1 y2 = some R := h
        unfold x_StoreList_know_25_g14 at h
        refine lv_aload_n hx hb d_StoreList_know_14 rfl (lv_at hl 0 rfl) ?_
        refine xg_25_size hx hb hts hin_StoreList hown hK hP (hts _ k_184) (fun _ h9 => h9) d_StoreList_know_15 ?_
        refine lv_if_le (tgt := 82) hx hb d_StoreList_know_18 (by decide) (fun hc => ?_) (fun hc => ?_)
        · replace h := if_t hc h
          exact q_vret hx hb hr hlocks h hP hD hS d_StoreList_know_82
        · replace h := if_f hc h
          refine lv_aload_n hx hb d_StoreList_know_21 rfl (lv_at hl 0 rfl) ?_
          refine xg_25_known hx hb hts hin_StoreList hown hK hP (hts _ k_182) (fun _ h9 => h9) d_StoreList_know_22 ?_
          refine lv_aload_n hx hb d_StoreList_know_25 rfl (lv_at hl 0 rfl) ?_
          refine xg_25_first hx hb hts hin_StoreList hown hK hP (hts _ k_183) (fun _ h9 => h9) d_StoreList_know_26 ?_
          obtain ⟨hi, h⟩ := gin_e h
          refine xl_19 hx hb hK hP hi d_StoreList_know_29 ?_
          refine lv_if_eq (tgt := 82) hx hb d_StoreList_know_30 (by decide) (fun hc => ?_) (fun hc => ?_)
          · replace h := if_t hc h
            exact q_vret hx hb hr hlocks h hP hD hS d_StoreList_know_82
          · replace h := if_f hc h
            refine lv_aload_n hx hb d_StoreList_know_33 rfl (lv_at hl 0 rfl) ?_
            refine xg_25_memory hx hb hts hin_StoreList hown hK hP (hts _ k_179) (fun _ h9 => h9) d_StoreList_know_34 ?_
            refine lv_aload_n hx hb d_StoreList_know_37 rfl (lv_at hl 0 rfl) ?_
            refine xg_25_addresses hx hb hts hin_StoreList hown hK hP (hts _ k_180) (fun _ h9 => h9) d_StoreList_know_38 ?_
            refine lv_aload_n hx hb d_StoreList_know_41 rfl (lv_at hl 0 rfl) ?_
            refine xg_25_first hx hb hts hin_StoreList hown hK hP (hts _ k_183) (fun _ h9 => h9) d_StoreList_know_42 ?_
            obtain ⟨hi, h⟩ := gin_e h
            refine xl_17 hx hb hK hP hi d_StoreList_know_45 ?_
            refine lv_aload_n hx hb d_StoreList_know_46 rfl (lv_at hl 0 rfl) ?_
            refine xg_25_values hx hb hts hin_StoreList hown hK hP (hts _ k_181) (fun _ h9 => h9) d_StoreList_know_47 ?_
            refine lv_aload_n hx hb d_StoreList_know_50 rfl (lv_at hl 0 rfl) ?_
            refine xg_25_first hx hb hts hin_StoreList hown hK hP (hts _ k_183) (fun _ h9 => h9) d_StoreList_know_51 ?_
            obtain ⟨hi, h⟩ := gin_e h
            refine xl_18 hx hb hK hP hi d_StoreList_know_54 ?_
            obtain ⟨hi, h⟩ := gin_e h
            obtain ⟨z3, e3, h⟩ := bnd_e h
            refine xs_11 hx hb hK hP hD hS hi d_StoreList_know_55 e3 (fun H locs hP hD hS => ?_)
            refine lv_aload_n hx hb d_StoreList_know_56 rfl (lv_at hl 0 rfl) ?_
            refine lv_aload_n hx hb d_StoreList_know_57 rfl (lv_at hl 0 rfl) ?_
            refine xg_25_first hx hb hts hin_StoreList hown hK hP (hts _ k_183) (fun _ h9 => h9) d_StoreList_know_58 ?_
            refine lv_iconst (v := 1) hx hb d_StoreList_know_61 (by decide) ?_
            refine lv_iadd hx hb d_StoreList_know_62 ?_
            refine lv_bipush (v := 6) hx hb d_StoreList_know_63 (by decide) ?_
            refine lv_irem hx hb d_StoreList_know_65 (by decide) ?_
            obtain ⟨z4, e4, h⟩ := bnd_e h
            refine xp_25_first hx hb hts hin_StoreList hown hK hP hD hS (hts _ k_183) (fun _ h9 => h9) d_StoreList_know_66 e4 (fun H locs hP hD hS => ?_)
            refine lv_aload_n hx hb d_StoreList_know_69 rfl (lv_at hl 0 rfl) ?_
            refine lv_dup hx hb d_StoreList_know_70 rfl ?_
            refine xg_25_size hx hb hts hin_StoreList hown hK hP (hts _ k_184) (fun _ h9 => h9) d_StoreList_know_71 ?_
            refine lv_iconst (v := 1) hx hb d_StoreList_know_74 (by decide) ?_
            refine lv_isub hx hb d_StoreList_know_75 ?_
            obtain ⟨z5, e5, h⟩ := bnd_e h
            refine xp_25_size hx hb hts hin_StoreList hown hK hP hD hS (hts _ k_184) (fun _ h9 => h9) d_StoreList_know_76 e5 (fun H locs hP hD hS => ?_)
            refine lv_goto (tgt := 14) hx hb d_StoreList_know_79 (by decide) ?_
            exact jp_14 z5 y1 y2 _ _ _ h hP hD hS (lv_sub hl [0, 1, 2] rfl)
  exact (key 4000).1 z0 x1 x2 _ _ _ h hP hD hS (lv_sub hl [0, 1, 2] rfl)
def x_StoreList_enterWith_25 (z0 : ST) (x1 x2 : Int32) : OR := obn (x_StoreList_slot_25 z0 (z0.1 14)) (fun r1 z1 => obn (x_StoreList_enter_25 z1 x1) (fun r2 z2 => obn (x_StoreList_know_25 z2 r1 x2) (fun r3 z3 => some (0, z3))))
set_option maxRecDepth 100000 in
set_option maxHeartbeats 4000000 in
theorem c_x_StoreList_enterWith_25 (l : Launch) (dC : Nat → ClassId) (dI : Nat → Nat → Nat) (cI cZ : ClassId) (ad : Nat → Nat) (z0 : ST) (x1 x2 : Int32) (R : Int32 × ST) (h : x_StoreList_enterWith_25 z0 x1 x2 = some R) : qMv l y_StoreList_enterWith w_StoreList_enterWith 2 43 (KX dC dI cI cZ) (dC, dI) q_cl (wX cI cZ ad) [.ref (ad 25), .int x1, .int x2] z0 R := by
  intro sz
  refine Met.ofW (cc := b_StoreList_enterWith) (maxL := 4) (ret := none) (by decide) rfl ?_
  intro p e s m args below meth c s₁ B hml hv
  obtain ⟨rfl, hsz, hP, hKK, hD0⟩ := hv
  have hx := B.exec
  have hb := B.bytes
  have hr := B.returns
  have hts : ∀ w ∈ q_big, w.before _ s = true := fun w h => atoms_spec (ws := w_StoreList_enterWith) B.pre w (List.mem_cons_of_mem _ h)
  have hown : s.vm.findClass "SlippedStreams$StoreList" = some m.cls := findClass_of_methodNamed B.named
  have hlocks := B.notSynchronized
  subst hsz
  have hD := hD0.self (sz := s.heap.size)
  generalize hAe : va_A (wX cI cZ ad z0) s.heap.size = A at hD ⊢
  have hA : ∀ q : Nat, s.heap.size ≤ q → A q := fun q h => by rw [← hAe]; exact Or.inr h
  have hS : va_S A s.heap s.heap [] := va_S.rf
  have hK := hKK.1
  have hl := lv_entry ([.ref (ad 25), .int x1, .int x2]) (n := 4) (Nat.le_of_ble_eq_true rfl)
  rw [lg_entry_eq]
  generalize (lg_sl ([.ref (ad 25), .int x1, .int x2]) ++ List.replicate (4 - (lg_sl ([.ref (ad 25), .int x1, .int x2])).length) Slot.unset).toArray = ls at hl ⊢
  have hl : lv_has ls 4 [(0, .ref (ad 25)), (1, .int x1), (2, .int x2)] := hl
  unfold x_StoreList_enterWith_25 at h
  refine lv_aload_n hx hb d_StoreList_enterWith_0 rfl (lv_at hl 0 rfl) ?_
  refine lv_aload_n hx hb d_StoreList_enterWith_1 rfl (lv_at hl 0 rfl) ?_
  refine xg_25_size hx hb hts hin_StoreList hown hK hP (hts _ k_184) (fun _ h9 => h9) d_StoreList_enterWith_2 ?_
  obtain ⟨r1, z1, hc1, h⟩ := obn_e h
  refine q_goi (va_runV (As := [.int (z0.1 14)]) (rest := []) ⟨hx, hb, hml, hown, hts⟩ (c_x_StoreList_slot_25 l dC dI cI cZ ad z0 (z0.1 14) _ hc1 _) (cwV 1 hts (q_goodL _ (q_l4 k_559 k_561 k_15 k_57) k_562) rfl rfl rfl (by decide +kernel) ⟨Nat.le_of_ble_eq_true rfl, Nat.le_of_ble_eq_true rfl⟩) (q_preV qok hKK hP hD (va_recv (ci := 4) (q0 := 25) hK hP rfl rfl)) rfl rfl hl.1 rfl (lv_room (Nat.le_of_ble_eq_true rfl)) d_StoreList_enterWith_5 ⟨Nat.le_refl _, Nat.le_refl _⟩) hD hS hA (fun H locs hP hD hS => ?_)
  refine lv_istore_n (lv' := [(3, .int r1), (0, .ref (ad 25)), (1, .int x1), (2, .int x2)]) hx hb d_StoreList_enterWith_8 rfl hl (by decide) rfl (fun ls hl => ?_)
  refine lv_aload_n hx hb d_StoreList_enterWith_9 rfl (lv_at hl 1 rfl) ?_
  refine lv_iload_n hx hb d_StoreList_enterWith_10 rfl (lv_at hl 2 rfl) ?_
  obtain ⟨r2, z2, hc2, h⟩ := obn_e h
  refine q_gov (va_runV (As := [.int x1]) (rest := []) ⟨hx, hb, hml, hown, hts⟩ (c_x_StoreList_enter_25 l dC dI cI cZ ad z1 x1 _ hc2 _) (cwV 1 hts (q_goodL _ (q_l4 k_582 k_583 k_584 k_57) k_585) rfl rfl rfl (by decide +kernel) ⟨Nat.le_of_ble_eq_true rfl, Nat.le_of_ble_eq_true rfl⟩) (q_preV qok hKK hP hD (va_recv (ci := 4) (q0 := 25) hK hP rfl rfl)) rfl rfl hl.1 rfl (lv_room (Nat.le_of_ble_eq_true rfl)) d_StoreList_enterWith_11 ⟨Nat.le_refl _, Nat.le_refl _⟩) hD hS hA (fun H locs hP hD hS => ?_)
  refine lv_aload_n hx hb d_StoreList_enterWith_14 rfl (lv_at hl 1 rfl) ?_
  refine lv_iload_n hx hb d_StoreList_enterWith_15 rfl (lv_at hl 0 rfl) ?_
  refine lv_iload_n hx hb d_StoreList_enterWith_16 rfl (lv_at hl 3 rfl) ?_
  obtain ⟨r3, z3, hc3, h⟩ := obn_e h
  refine q_gov (va_runV (As := [.int r1, .int x2]) (rest := []) ⟨hx, hb, hml, hown, hts⟩ (c_x_StoreList_know_25 l dC dI cI cZ ad z2 r1 x2 _ hc3 _) (cwV 2 hts (q_goodL _ (q_l4 k_586 k_588 k_17 k_57) k_589) rfl rfl rfl (by decide +kernel) ⟨Nat.le_of_ble_eq_true rfl, Nat.le_of_ble_eq_true rfl⟩) (q_preV qok hKK hP hD (va_recv (ci := 4) (q0 := 25) hK hP rfl rfl)) rfl rfl hl.1 rfl (lv_room (Nat.le_of_ble_eq_true rfl)) d_StoreList_enterWith_17 ⟨Nat.le_refl _, Nat.le_refl _⟩) hD hS hA (fun H locs hP hD hS => ?_)
  exact q_vret hx hb hr hlocks h hP hD hS d_StoreList_enterWith_20
def x_AddressStream_store_29_116 (z0 : ST) (y1 y2 : Int32) : OR := obn (x_Stream_leaveFor_29 z0 (y1 + 1)) (fun r1 z1 => gib r1 (some (r1, z1)))
def x_AddressStream_store_29 (z0 : ST) (x1 : Int32) : OR := obn (x_StoreList_isFull_25 z0) (fun r2 z2 => if r2 = 0 then (gin x1 24 (obn (x_Program_isAddressRegister_1 z2 (z2.2 1 x1.toNatClampNeg)) (fun r3 z3 => if r3 = 0 then (if (z3.1 6) ≤ 0 then (obn (x_Run_wordAddress_29 z3 x1) (fun r4 z4 => obn (x_StoreList_enter_25 z4 r4) (fun r5 z5 => x_AddressStream_store_29_116 z5 x1 (z2.2 1 x1.toNatClampNeg)))) else (obn (x_Run_wordAddress_29 z3 x1) (fun r6 z6 => obn (x_Fifo_take_16 z6) (fun r7 z7 => obn (x_StoreList_enterWith_25 z7 r6 r7) (fun r8 z8 => x_AddressStream_store_29_116 z8 x1 (z2.2 1 x1.toNatClampNeg)))))) else (obn (x_Run_wordAddress_29 z3 x1) (fun r9 z9 => gin (z2.2 1 x1.toNatClampNeg) 8 (obn (x_StoreList_enterWith_25 z9 r9 (z9.2 20 (z2.2 1 x1.toNatClampNeg).toNatClampNeg)) (fun r10 z10 => x_AddressStream_store_29_116 z10 x1 (z2.2 1 x1.toNatClampNeg)))))))) else (gib 0 (some (0, z2))))
set_option maxRecDepth 100000 in
set_option maxHeartbeats 4000000 in
theorem c_x_AddressStream_store_29 (l : Launch) (dC : Nat → ClassId) (dI : Nat → Nat → Nat) (cI cZ : ClassId) (ad : Nat → Nat) (z0 : ST) (x1 : Int32) (R : Int32 × ST) (h : x_AddressStream_store_29 z0 x1 = some R) : qMi l y_AddressStream_store w_AddressStream_store 3 66 (KX dC dI cI cZ) (dC, dI) q_cl (wX cI cZ ad) [.ref (ad 29), .int x1] z0 R := by
  intro sz
  refine Met.ofW (cc := b_AddressStream_store) (maxL := 3) (ret := (some .boolean)) (by decide) rfl ?_
  intro p e s m args below meth c s₁ B hml hv
  obtain ⟨rfl, hsz, hP, hKK, hD0⟩ := hv
  have hx := B.exec
  have hb := B.bytes
  have hr := B.returns
  have hts : ∀ w ∈ q_big, w.before _ s = true := fun w h => atoms_spec (ws := w_AddressStream_store) B.pre w (List.mem_cons_of_mem _ h)
  have hown : s.vm.findClass "SlippedStreams$AddressStream" = some m.cls := findClass_of_methodNamed B.named
  have hlocks := B.notSynchronized
  subst hsz
  have hD := hD0.self (sz := s.heap.size)
  generalize hAe : va_A (wX cI cZ ad z0) s.heap.size = A at hD ⊢
  have hA : ∀ q : Nat, s.heap.size ≤ q → A q := fun q h => by rw [← hAe]; exact Or.inr h
  have hS : va_S A s.heap s.heap [] := va_S.rf
  have hK := hKK.1
  have hl := lv_entry ([.ref (ad 29), .int x1]) (n := 3) (Nat.le_of_ble_eq_true rfl)
  rw [lg_entry_eq]
  generalize (lg_sl ([.ref (ad 29), .int x1]) ++ List.replicate (3 - (lg_sl ([.ref (ad 29), .int x1])).length) Slot.unset).toArray = ls at hl ⊢
  have hl : lv_has ls 3 [(0, .ref (ad 29)), (1, .int x1)] := hl
  have jp_116 : ∀ (z0 : ST) (y1 y2 : Int32) (H : Heap) (locs : List Loc) (ls : Array Slot), x_AddressStream_store_29_116 z0 y1 y2 = some R → va_P (dC, dI) q_cl (wX cI cZ ad z0) H → va_D A (wX cI cZ ad z0) → va_S A s.heap H locs → lv_has ls 3 [(0, .ref (ad 29)), (1, .int y1), (2, .int y2)] → qWi p l e w_AddressStream_store 3 66 s m [.ref (ad 29), .int x1] below meth c (dC, dI) q_cl (wX cI cZ ad) A R H locs (F0 m 116 ls []) := by
    intro z0 y1 y2 H locs ls h hP hD hS hl
    unfold x_AddressStream_store_29_116 at h
    refine lv_aload_n hx hb d_AddressStream_store_116 rfl (lv_at hl 0 rfl) ?_
    refine lv_iload_n hx hb d_AddressStream_store_117 rfl (lv_at hl 1 rfl) ?_
    refine lv_iconst (v := 1) hx hb d_AddressStream_store_118 (by decide) ?_
    refine lv_iadd hx hb d_AddressStream_store_119 ?_
    obtain ⟨r1, z1, hc1, h⟩ := obn_e h
    refine q_goi (va_runU (As := [.int (y1 + 1)]) (rest := []) ⟨hx, hb, hml, hown, hts⟩ (c_x_Stream_leaveFor_29 l dC dI cI cZ ad z0 (y1 + 1) _ hc1 _) (va_cwU 1 hts (q_goodL _ (q_l5 k_563 k_564 k_566 k_567 k_59) k_568) rfl rfl rfl rfl (by decide +kernel) ⟨Nat.le_of_ble_eq_true rfl, Nat.le_of_ble_eq_true rfl⟩) (q_preV qok hKK hP hD (va_recv (ci := 5) (q0 := 29) hK hP rfl rfl)) rfl rfl hl.1 rfl (lv_room (Nat.le_of_ble_eq_true rfl)) d_AddressStream_store_120 ⟨Nat.le_refl _, Nat.le_refl _⟩) hD hS hA (fun H locs hP hD hS => ?_)
    exact q_zret hx hb hr hlocks h hP hD hS d_AddressStream_store_123
  unfold x_AddressStream_store_29 at h
  refine lv_aload_n hx hb d_AddressStream_store_0 rfl (lv_at hl 0 rfl) ?_
  refine xg_29_link hx hb hts hin_AddressStream hown hK hP (hts _ k_257) (fun x9 h9 => u_same (hts _ k_258) x9 h9) d_AddressStream_store_1 ?_
  refine xg_13_stores hx hb hts hin_Link hown hK hP (hts _ k_223) (fun _ h9 => h9) d_AddressStream_store_4 ?_
  obtain ⟨r2, z2, hc2, h⟩ := obn_e h
  refine q_goi (va_runV (As := []) (rest := []) ⟨hx, hb, hml, hown, hts⟩ (c_x_StoreList_isFull_25 l dC dI cI cZ ad z0 _ hc2 _) (cwV 0 hts (q_goodL _ (q_l4 k_573 k_574 k_575 k_57) k_576) rfl rfl rfl (by decide +kernel) ⟨Nat.le_of_ble_eq_true rfl, Nat.le_of_ble_eq_true rfl⟩) (q_preV qok hKK hP hD (va_recv (ci := 4) (q0 := 25) hK hP rfl rfl)) rfl rfl hl.1 rfl (lv_room (Nat.le_of_ble_eq_true rfl)) d_AddressStream_store_7 ⟨Nat.le_refl _, Nat.le_refl _⟩) hD hS hA (fun H locs hP hD hS => ?_)
  refine lv_if_eq (tgt := 15) hx hb d_AddressStream_store_10 (by decide) (fun hc => ?_) (fun hc => ?_)
  · replace h := if_t hc h
    refine lv_aload_n hx hb d_AddressStream_store_15 rfl (lv_at hl 0 rfl) ?_
    refine xg_29_program hx hb hts hin_AddressStream hown hK hP (hts _ k_266) (fun x9 h9 => u_same (hts _ k_267) x9 h9) d_AddressStream_store_16 ?_
    refine xg_1_as hx hb hts hin_Program hown hK hP (hts _ k_91) (fun _ h9 => h9) d_AddressStream_store_19 ?_
    refine lv_iload_n hx hb d_AddressStream_store_22 rfl (lv_at hl 1 rfl) ?_
    obtain ⟨hi, h⟩ := gin_e h
    refine xl_1 hx hb hK hP hi d_AddressStream_store_23 ?_
    refine lv_istore_n (lv' := [(2, .int (z2.2 1 x1.toNatClampNeg)), (0, .ref (ad 29)), (1, .int x1)]) hx hb d_AddressStream_store_24 rfl hl (by decide) rfl (fun ls hl => ?_)
    refine lv_aload_n hx hb d_AddressStream_store_25 rfl (lv_at hl 1 rfl) ?_
    refine xg_29_program hx hb hts hin_AddressStream hown hK hP (hts _ k_266) (fun x9 h9 => u_same (hts _ k_267) x9 h9) d_AddressStream_store_26 ?_
    refine lv_iload_n hx hb d_AddressStream_store_29 rfl (lv_at hl 0 rfl) ?_
    obtain ⟨r3, z3, hc3, h⟩ := obn_e h
    refine q_goi (va_runV (As := [.int (z2.2 1 x1.toNatClampNeg)]) (rest := []) ⟨hx, hb, hml, hown, hts⟩ (c_x_Program_isAddressRegister_1 l dC dI cI cZ ad z2 (z2.2 1 x1.toNatClampNeg) _ hc3 _) (cwV 1 hts (q_goodL _ (q_l4 k_577 k_410 k_411 k_54) k_412) rfl rfl rfl (by decide +kernel) ⟨Nat.le_of_ble_eq_true rfl, Nat.le_of_ble_eq_true rfl⟩) (q_preV qok hKK hP hD (va_recv (ci := 1) (q0 := 1) hK hP rfl rfl)) rfl rfl hl.1 rfl (lv_room (Nat.le_of_ble_eq_true rfl)) d_AddressStream_store_30 ⟨Nat.le_refl _, Nat.le_refl _⟩) hD hS hA (fun H locs hP hD hS => ?_)
    refine lv_if_eq (tgt := 60) hx hb d_AddressStream_store_33 (by decide) (fun hc => ?_) (fun hc => ?_)
    · replace h := if_t hc h
      refine lv_aload_n hx hb d_AddressStream_store_60 rfl (lv_at hl 1 rfl) ?_
      refine xg_29_link hx hb hts hin_AddressStream hown hK hP (hts _ k_257) (fun x9 h9 => u_same (hts _ k_258) x9 h9) d_AddressStream_store_61 ?_
      refine xg_13_stored hx hb hts hin_Link hown hK hP (hts _ k_208) (fun _ h9 => h9) d_AddressStream_store_64 ?_
      refine xg_16_size hx hb hts hin_Fifo hown hK hP (hts _ k_164) (fun _ h9 => h9) d_AddressStream_store_67 ?_
      refine lv_if_le (tgt := 101) hx hb d_AddressStream_store_70 (by decide) (fun hc => ?_) (fun hc => ?_)
      · replace h := if_t hc h
        refine lv_aload_n hx hb d_AddressStream_store_101 rfl (lv_at hl 1 rfl) ?_
        refine xg_29_link hx hb hts hin_AddressStream hown hK hP (hts _ k_257) (fun x9 h9 => u_same (hts _ k_258) x9 h9) d_AddressStream_store_102 ?_
        refine xg_13_stores hx hb hts hin_Link hown hK hP (hts _ k_223) (fun _ h9 => h9) d_AddressStream_store_105 ?_
        refine lv_aload_n hx hb d_AddressStream_store_108 rfl (lv_at hl 1 rfl) ?_
        refine lv_iload_n hx hb d_AddressStream_store_109 rfl (lv_at hl 2 rfl) ?_
        obtain ⟨r4, z4, hc4, h⟩ := obn_e h
        refine q_goi (va_runU (As := [.int x1]) (rest := [.ref (ad 25)]) ⟨hx, hb, hml, hown, hts⟩ (c_x_Run_wordAddress_29 l dC dI cI cZ ad z3 x1 _ hc4 _) (va_cwU 1 hts (q_goodL _ (q_l5 k_549 k_550 k_552 k_553 k_58) k_554) rfl rfl rfl rfl (by decide +kernel) ⟨Nat.le_of_ble_eq_true rfl, Nat.le_of_ble_eq_true rfl⟩) (q_preV qok hKK hP hD (va_recv (ci := 5) (q0 := 29) hK hP rfl rfl)) rfl rfl hl.1 rfl (lv_room (Nat.le_of_ble_eq_true rfl)) d_AddressStream_store_110 ⟨Nat.le_refl _, Nat.le_refl _⟩) hD hS hA (fun H locs hP hD hS => ?_)
        obtain ⟨r5, z5, hc5, h⟩ := obn_e h
        refine q_gov (va_runV (As := [.int r4]) (rest := []) ⟨hx, hb, hml, hown, hts⟩ (c_x_StoreList_enter_25 l dC dI cI cZ ad z4 r4 _ hc5 _) (cwV 1 hts (q_goodL _ (q_l4 k_594 k_583 k_584 k_57) k_585) rfl rfl rfl (by decide +kernel) ⟨Nat.le_of_ble_eq_true rfl, Nat.le_of_ble_eq_true rfl⟩) (q_preV qok hKK hP hD (va_recv (ci := 4) (q0 := 25) hK hP rfl rfl)) rfl rfl hl.1 rfl (lv_room (Nat.le_of_ble_eq_true rfl)) d_AddressStream_store_113 ⟨Nat.le_refl _, Nat.le_refl _⟩) hD hS hA (fun H locs hP hD hS => ?_)
        exact jp_116 z5 x1 (z2.2 1 x1.toNatClampNeg) _ _ _ h hP hD hS (lv_sub hl [1, 2, 0] rfl)
      · replace h := if_f hc h
        refine lv_aload_n hx hb d_AddressStream_store_73 rfl (lv_at hl 1 rfl) ?_
        refine xg_29_link hx hb hts hin_AddressStream hown hK hP (hts _ k_257) (fun x9 h9 => u_same (hts _ k_258) x9 h9) d_AddressStream_store_74 ?_
        refine xg_13_stores hx hb hts hin_Link hown hK hP (hts _ k_223) (fun _ h9 => h9) d_AddressStream_store_77 ?_
        refine lv_aload_n hx hb d_AddressStream_store_80 rfl (lv_at hl 1 rfl) ?_
        refine lv_iload_n hx hb d_AddressStream_store_81 rfl (lv_at hl 2 rfl) ?_
        obtain ⟨r6, z6, hc6, h⟩ := obn_e h
        refine q_goi (va_runU (As := [.int x1]) (rest := [.ref (ad 25)]) ⟨hx, hb, hml, hown, hts⟩ (c_x_Run_wordAddress_29 l dC dI cI cZ ad z3 x1 _ hc6 _) (va_cwU 1 hts (q_goodL _ (q_l5 k_549 k_550 k_552 k_553 k_58) k_554) rfl rfl rfl rfl (by decide +kernel) ⟨Nat.le_of_ble_eq_true rfl, Nat.le_of_ble_eq_true rfl⟩) (q_preV qok hKK hP hD (va_recv (ci := 5) (q0 := 29) hK hP rfl rfl)) rfl rfl hl.1 rfl (lv_room (Nat.le_of_ble_eq_true rfl)) d_AddressStream_store_82 ⟨Nat.le_refl _, Nat.le_refl _⟩) hD hS hA (fun H locs hP hD hS => ?_)
        refine lv_aload_n hx hb d_AddressStream_store_85 rfl (lv_at hl 1 rfl) ?_
        refine xg_29_link hx hb hts hin_AddressStream hown hK hP (hts _ k_257) (fun x9 h9 => u_same (hts _ k_258) x9 h9) d_AddressStream_store_86 ?_
        refine xg_13_stored hx hb hts hin_Link hown hK hP (hts _ k_208) (fun _ h9 => h9) d_AddressStream_store_89 ?_
        obtain ⟨r7, z7, hc7, h⟩ := obn_e h
        refine q_goi (va_runV (As := []) (rest := [.int r6, .ref (ad 25)]) ⟨hx, hb, hml, hown, hts⟩ (c_x_Fifo_take_16 l dC dI cI cZ ad z6 _ hc7 _) (cwV 0 hts (q_goodL _ (q_l4 k_590 k_591 k_592 k_56) k_593) rfl rfl rfl (by decide +kernel) ⟨Nat.le_of_ble_eq_true rfl, Nat.le_of_ble_eq_true rfl⟩) (q_preV qok hKK hP hD (va_recv (ci := 3) (q0 := 16) hK hP rfl rfl)) rfl rfl hl.1 rfl (lv_room (Nat.le_of_ble_eq_true rfl)) d_AddressStream_store_92 ⟨Nat.le_refl _, Nat.le_refl _⟩) hD hS hA (fun H locs hP hD hS => ?_)
        obtain ⟨r8, z8, hc8, h⟩ := obn_e h
        refine q_gov (va_runV (As := [.int r6, .int r7]) (rest := []) ⟨hx, hb, hml, hown, hts⟩ (c_x_StoreList_enterWith_25 l dC dI cI cZ ad z7 r6 r7 _ hc8 _) (cwV 2 hts (q_goodL _ (q_l4 k_578 k_579 k_580 k_57) k_581) rfl rfl rfl (by decide +kernel) ⟨Nat.le_of_ble_eq_true rfl, Nat.le_of_ble_eq_true rfl⟩) (q_preV qok hKK hP hD (va_recv (ci := 4) (q0 := 25) hK hP rfl rfl)) rfl rfl hl.1 rfl (lv_room (Nat.le_of_ble_eq_true rfl)) d_AddressStream_store_95 ⟨Nat.le_refl _, Nat.le_refl _⟩) hD hS hA (fun H locs hP hD hS => ?_)
        refine lv_goto (tgt := 116) hx hb d_AddressStream_store_98 (by decide) ?_
        exact jp_116 z8 x1 (z2.2 1 x1.toNatClampNeg) _ _ _ h hP hD hS (lv_sub hl [1, 2, 0] rfl)
    · replace h := if_f hc h
      refine lv_aload_n hx hb d_AddressStream_store_36 rfl (lv_at hl 1 rfl) ?_
      refine xg_29_link hx hb hts hin_AddressStream hown hK hP (hts _ k_257) (fun x9 h9 => u_same (hts _ k_258) x9 h9) d_AddressStream_store_37 ?_
      refine xg_13_stores hx hb hts hin_Link hown hK hP (hts _ k_223) (fun _ h9 => h9) d_AddressStream_store_40 ?_
      refine lv_aload_n hx hb d_AddressStream_store_43 rfl (lv_at hl 1 rfl) ?_
      refine lv_iload_n hx hb d_AddressStream_store_44 rfl (lv_at hl 2 rfl) ?_
      obtain ⟨r9, z9, hc9, h⟩ := obn_e h
      refine q_goi (va_runU (As := [.int x1]) (rest := [.ref (ad 25)]) ⟨hx, hb, hml, hown, hts⟩ (c_x_Run_wordAddress_29 l dC dI cI cZ ad z3 x1 _ hc9 _) (va_cwU 1 hts (q_goodL _ (q_l5 k_549 k_550 k_552 k_553 k_58) k_554) rfl rfl rfl rfl (by decide +kernel) ⟨Nat.le_of_ble_eq_true rfl, Nat.le_of_ble_eq_true rfl⟩) (q_preV qok hKK hP hD (va_recv (ci := 5) (q0 := 29) hK hP rfl rfl)) rfl rfl hl.1 rfl (lv_room (Nat.le_of_ble_eq_true rfl)) d_AddressStream_store_45 ⟨Nat.le_refl _, Nat.le_refl _⟩) hD hS hA (fun H locs hP hD hS => ?_)
      refine lv_aload_n hx hb d_AddressStream_store_48 rfl (lv_at hl 1 rfl) ?_
      refine xg_29_registers hx hb hts hin_AddressStream hown hK hP (hts _ k_281) (fun x9 h9 => u_same (hts _ k_282) x9 h9) d_AddressStream_store_49 ?_
      refine lv_iload_n hx hb d_AddressStream_store_52 rfl (lv_at hl 0 rfl) ?_
      obtain ⟨hi, h⟩ := gin_e h
      refine xl_20 hx hb hK hP hi d_AddressStream_store_53 ?_
      obtain ⟨r10, z10, hc10, h⟩ := obn_e h
      refine q_gov (va_runV (As := [.int r9, .int (z9.2 20 (z2.2 1 x1.toNatClampNeg).toNatClampNeg)]) (rest := []) ⟨hx, hb, hml, hown, hts⟩ (c_x_StoreList_enterWith_25 l dC dI cI cZ ad z9 r9 (z9.2 20 (z2.2 1 x1.toNatClampNeg).toNatClampNeg) _ hc10 _) (cwV 2 hts (q_goodL _ (q_l4 k_578 k_579 k_580 k_57) k_581) rfl rfl rfl (by decide +kernel) ⟨Nat.le_of_ble_eq_true rfl, Nat.le_of_ble_eq_true rfl⟩) (q_preV qok hKK hP hD (va_recv (ci := 4) (q0 := 25) hK hP rfl rfl)) rfl rfl hl.1 rfl (lv_room (Nat.le_of_ble_eq_true rfl)) d_AddressStream_store_54 ⟨Nat.le_refl _, Nat.le_refl _⟩) hD hS hA (fun H locs hP hD hS => ?_)
      refine lv_goto (tgt := 116) hx hb d_AddressStream_store_57 (by decide) ?_
      exact jp_116 z10 x1 (z2.2 1 x1.toNatClampNeg) _ _ _ h hP hD hS (lv_sub hl [1, 2, 0] rfl)
  · replace h := if_f hc h
    refine lv_iconst (v := 0) hx hb d_AddressStream_store_13 (by decide) ?_
    exact q_zret hx hb hr hlocks h hP hD hS d_AddressStream_store_14
