def x_Fifo_hasRoomFor_19 (z0 : ST) (x1 : Int32) : OR := if 6 < ((z0.1 12) + x1) then (gib 0 (some (0, z0))) else (gib 1 (some (1, z0)))
set_option maxRecDepth 100000 in
set_option maxHeartbeats 4000000 in
theorem c_x_Fifo_hasRoomFor_19 (l : Launch) (dC : Nat → ClassId) (dI : Nat → Nat → Nat) (cI cZ : ClassId) (ad : Nat → Nat) (z0 : ST) (x1 : Int32) (R : Int32 × ST) (h : x_Fifo_hasRoomFor_19 z0 x1 = some R) : qMi l y_Fifo_hasRoomFor w_Fifo_hasRoomFor 0 0 (KX dC dI cI cZ) (dC, dI) q_cl (wX cI cZ ad) [.ref (ad 19), .int x1] z0 R := by
  intro sz
  refine Met.ofW (cc := b_Fifo_hasRoomFor) (maxL := 2) (ret := (some .boolean)) (by decide) rfl ?_
  intro p e s m args below meth c s₁ B hml hv
  obtain ⟨rfl, hsz, hP, hKK, hD0⟩ := hv
  have hx := B.exec
  have hb := B.bytes
  have hr := B.returns
  have hts : ∀ w ∈ q_big, w.before _ s = true := fun w h => atoms_spec (ws := w_Fifo_hasRoomFor) B.pre w (List.mem_cons_of_mem _ h)
  have hown : s.vm.findClass "SlippedStreams$Fifo" = some m.cls := findClass_of_methodNamed B.named
  have hlocks := B.notSynchronized
  subst hsz
  have hD := hD0.self (sz := s.heap.size)
  generalize hAe : va_A (wX cI cZ ad z0) s.heap.size = A at hD ⊢
  have hA : ∀ q : Nat, s.heap.size ≤ q → A q := fun q h => by rw [← hAe]; exact Or.inr h
  have hS : va_S A s.heap s.heap [] := va_S.rf
  have hK := hKK.1
  have hl := lv_entry ([.ref (ad 19), .int x1]) (n := 2) (Nat.le_of_ble_eq_true rfl)
  rw [lg_entry_eq]
  generalize (lg_sl ([.ref (ad 19), .int x1]) ++ List.replicate (2 - (lg_sl ([.ref (ad 19), .int x1])).length) Slot.unset).toArray = ls at hl ⊢
  have hl : lv_has ls 2 [(0, .ref (ad 19)), (1, .int x1)] := hl
  unfold x_Fifo_hasRoomFor_19 at h
  refine lv_aload_n hx hb d_Fifo_hasRoomFor_0 rfl (lv_at hl 0 rfl) ?_
  refine xg_19_size hx hb hts hin_Fifo hown hK hP (hts _ k_161) (fun _ h9 => h9) d_Fifo_hasRoomFor_1 ?_
  refine lv_iload_n hx hb d_Fifo_hasRoomFor_4 rfl (lv_at hl 1 rfl) ?_
  refine lv_iadd hx hb d_Fifo_hasRoomFor_5 ?_
  refine lv_aload_n hx hb d_Fifo_hasRoomFor_6 rfl (lv_at hl 0 rfl) ?_
  refine xg_19_things hx hb hts hin_Fifo hown hK hP (hts _ k_159) (fun _ h9 => h9) d_Fifo_hasRoomFor_7 ?_
  refine va_alen (v := 6) hx hb hK hP 24 0 rfl rfl rfl d_Fifo_hasRoomFor_10 ?_
  refine lv_icmp_gt (tgt := 18) hx hb d_Fifo_hasRoomFor_11 (by decide) (fun hc => ?_) (fun hc => ?_)
  · replace h := if_t hc h
    refine lv_iconst (v := 0) hx hb d_Fifo_hasRoomFor_18 (by decide) ?_
    exact q_zret hx hb hr hlocks h hP hD hS d_Fifo_hasRoomFor_19
  · replace h := if_f hc h
    refine lv_iconst (v := 1) hx hb d_Fifo_hasRoomFor_14 (by decide) ?_
    refine lv_goto (tgt := 19) hx hb d_Fifo_hasRoomFor_15 (by decide) ?_
    exact q_zret hx hb hr hlocks h hP hD hS d_Fifo_hasRoomFor_19
def x_Fifo_put_19_34 (z0 : ST) (y1 y2 y3 : Int32) : OR := gin y3 6 (bnd (stA z0 16 (upd (z0.2 16) y3.toNatClampNeg y1)) (fun z1 => bnd (stI z1 12 ((z1.1 12) + 1)) (fun z2 => some (0, z2))))
def x_Fifo_put_19 (z0 : ST) (x1 : Int32) : OR := if 6 ≤ ((z0.1 11) + (z0.1 12)) then (x_Fifo_put_19_34 z0 x1 ((z0.1 11) + (z0.1 12)) (((z0.1 11) + (z0.1 12)) - 6)) else (x_Fifo_put_19_34 z0 x1 ((z0.1 11) + (z0.1 12)) ((z0.1 11) + (z0.1 12)))
set_option maxRecDepth 100000 in
set_option maxHeartbeats 4000000 in
theorem c_x_Fifo_put_19 (l : Launch) (dC : Nat → ClassId) (dI : Nat → Nat → Nat) (cI cZ : ClassId) (ad : Nat → Nat) (z0 : ST) (x1 : Int32) (R : Int32 × ST) (h : x_Fifo_put_19 z0 x1 = some R) : qMv l y_Fifo_put w_Fifo_put 0 0 (KX dC dI cI cZ) (dC, dI) q_cl (wX cI cZ ad) [.ref (ad 19), .int x1] z0 R := by
  intro sz
  refine Met.ofW (cc := b_Fifo_put) (maxL := 3) (ret := none) (by decide) rfl ?_
  intro p e s m args below meth c s₁ B hml hv
  obtain ⟨rfl, hsz, hP, hKK, hD0⟩ := hv
  have hx := B.exec
  have hb := B.bytes
  have hr := B.returns
  have hts : ∀ w ∈ q_big, w.before _ s = true := fun w h => atoms_spec (ws := w_Fifo_put) B.pre w (List.mem_cons_of_mem _ h)
  have hown : s.vm.findClass "SlippedStreams$Fifo" = some m.cls := findClass_of_methodNamed B.named
  have hlocks := B.notSynchronized
  subst hsz
  have hD := hD0.self (sz := s.heap.size)
  generalize hAe : va_A (wX cI cZ ad z0) s.heap.size = A at hD ⊢
  have hA : ∀ q : Nat, s.heap.size ≤ q → A q := fun q h => by rw [← hAe]; exact Or.inr h
  have hS : va_S A s.heap s.heap [] := va_S.rf
  have hK := hKK.1
  have hl := lv_entry ([.ref (ad 19), .int x1]) (n := 3) (Nat.le_of_ble_eq_true rfl)
  rw [lg_entry_eq]
  generalize (lg_sl ([.ref (ad 19), .int x1]) ++ List.replicate (3 - (lg_sl ([.ref (ad 19), .int x1])).length) Slot.unset).toArray = ls at hl ⊢
  have hl : lv_has ls 3 [(0, .ref (ad 19)), (1, .int x1)] := hl
  have jp_34 : ∀ (z0 : ST) (y1 y2 y3 : Int32) (H : Heap) (locs : List Loc) (ls : Array Slot), x_Fifo_put_19_34 z0 y1 y2 y3 = some R → va_P (dC, dI) q_cl (wX cI cZ ad z0) H → va_D A (wX cI cZ ad z0) → va_S A s.heap H locs → lv_has ls 3 [(0, .ref (ad 19)), (1, .int y1), (2, .int y2)] → qWv p l e w_Fifo_put 0 0 s m [.ref (ad 19), .int x1] below meth c (dC, dI) q_cl (wX cI cZ ad) A R H locs (F0 m 34 ls [.int y3, .ref (ad 24)]) := by
    intro z0 y1 y2 y3 H locs ls h hP hD hS hl
    unfold x_Fifo_put_19_34 at h
    refine lv_iload_n hx hb d_Fifo_put_34 rfl (lv_at hl 1 rfl) ?_
    obtain ⟨hi, h⟩ := gin_e h
    obtain ⟨z1, e1, h⟩ := bnd_e h
    refine xs_16 hx hb hK hP hD hS hi d_Fifo_put_35 e1 (fun H locs hP hD hS => ?_)
    refine lv_aload_n hx hb d_Fifo_put_36 rfl (lv_at hl 0 rfl) ?_
    refine lv_dup hx hb d_Fifo_put_37 rfl ?_
    refine xg_19_size hx hb hts hin_Fifo hown hK hP (hts _ k_161) (fun _ h9 => h9) d_Fifo_put_38 ?_
    refine lv_iconst (v := 1) hx hb d_Fifo_put_41 (by decide) ?_
    refine lv_iadd hx hb d_Fifo_put_42 ?_
    obtain ⟨z2, e2, h⟩ := bnd_e h
    refine xp_19_size hx hb hts hin_Fifo hown hK hP hD hS (hts _ k_161) (fun _ h9 => h9) d_Fifo_put_43 e2 (fun H locs hP hD hS => ?_)
    exact q_vret hx hb hr hlocks h hP hD hS d_Fifo_put_46
  unfold x_Fifo_put_19 at h
  refine lv_aload_n hx hb d_Fifo_put_0 rfl (lv_at hl 0 rfl) ?_
  refine xg_19_first hx hb hts hin_Fifo hown hK hP (hts _ k_160) (fun _ h9 => h9) d_Fifo_put_1 ?_
  refine lv_aload_n hx hb d_Fifo_put_4 rfl (lv_at hl 0 rfl) ?_
  refine xg_19_size hx hb hts hin_Fifo hown hK hP (hts _ k_161) (fun _ h9 => h9) d_Fifo_put_5 ?_
  refine lv_iadd hx hb d_Fifo_put_8 ?_
  refine lv_istore_n (lv' := [(2, .int ((z0.1 11) + (z0.1 12))), (0, .ref (ad 19)), (1, .int x1)]) hx hb d_Fifo_put_9 rfl hl (by decide) rfl (fun ls hl => ?_)
  refine lv_aload_n hx hb d_Fifo_put_10 rfl (lv_at hl 1 rfl) ?_
  refine xg_19_things hx hb hts hin_Fifo hown hK hP (hts _ k_159) (fun _ h9 => h9) d_Fifo_put_11 ?_
  refine lv_iload_n hx hb d_Fifo_put_14 rfl (lv_at hl 0 rfl) ?_
  refine lv_aload_n hx hb d_Fifo_put_15 rfl (lv_at hl 1 rfl) ?_
  refine xg_19_things hx hb hts hin_Fifo hown hK hP (hts _ k_159) (fun _ h9 => h9) d_Fifo_put_16 ?_
  refine va_alen (v := 6) hx hb hK hP 24 0 rfl rfl rfl d_Fifo_put_19 ?_
  refine lv_icmp_ge (tgt := 27) hx hb d_Fifo_put_20 (by decide) (fun hc => ?_) (fun hc => ?_)
  · replace h := if_t hc h
    refine lv_iload_n hx hb d_Fifo_put_27 rfl (lv_at hl 0 rfl) ?_
    refine lv_aload_n hx hb d_Fifo_put_28 rfl (lv_at hl 1 rfl) ?_
    refine xg_19_things hx hb hts hin_Fifo hown hK hP (hts _ k_159) (fun _ h9 => h9) d_Fifo_put_29 ?_
    refine va_alen (v := 6) hx hb hK hP 24 0 rfl rfl rfl d_Fifo_put_32 ?_
    refine lv_isub hx hb d_Fifo_put_33 ?_
    exact jp_34 z0 x1 ((z0.1 11) + (z0.1 12)) (((z0.1 11) + (z0.1 12)) - 6) _ _ _ h hP hD hS (lv_sub hl [1, 2, 0] rfl)
  · replace h := if_f hc h
    refine lv_iload_n hx hb d_Fifo_put_23 rfl (lv_at hl 0 rfl) ?_
    refine lv_goto (tgt := 34) hx hb d_Fifo_put_24 (by decide) ?_
    exact jp_34 z0 x1 ((z0.1 11) + (z0.1 12)) ((z0.1 11) + (z0.1 12)) _ _ _ h hP hD hS (lv_sub hl [1, 2, 0] rfl)
def x_AddressStream_hand_29 (z0 : ST) (x1 : Int32) : OR := if x1 = (-1) then (some (0, z0)) else (gin x1 8 (obn (x_Fifo_put_19 z0 (z0.2 20 x1.toNatClampNeg)) (fun r1 z1 => some (0, z1))))
set_option maxRecDepth 100000 in
set_option maxHeartbeats 4000000 in
theorem c_x_AddressStream_hand_29 (l : Launch) (dC : Nat → ClassId) (dI : Nat → Nat → Nat) (cI cZ : ClassId) (ad : Nat → Nat) (z0 : ST) (x1 : Int32) (R : Int32 × ST) (h : x_AddressStream_hand_29 z0 x1 = some R) : qMv l y_AddressStream_hand w_AddressStream_hand 1 22 (KX dC dI cI cZ) (dC, dI) q_cl (wX cI cZ ad) [.ref (ad 29), .int x1] z0 R := by
  intro sz
  refine Met.ofW (cc := b_AddressStream_hand) (maxL := 2) (ret := none) (by decide) rfl ?_
  intro p e s m args below meth c s₁ B hml hv
  obtain ⟨rfl, hsz, hP, hKK, hD0⟩ := hv
  have hx := B.exec
  have hb := B.bytes
  have hr := B.returns
  have hts : ∀ w ∈ q_big, w.before _ s = true := fun w h => atoms_spec (ws := w_AddressStream_hand) B.pre w (List.mem_cons_of_mem _ h)
  have hown : s.vm.findClass "SlippedStreams$AddressStream" = some m.cls := findClass_of_methodNamed B.named
  have hlocks := B.notSynchronized
  subst hsz
  have hD := hD0.self (sz := s.heap.size)
  generalize hAe : va_A (wX cI cZ ad z0) s.heap.size = A at hD ⊢
  have hA : ∀ q : Nat, s.heap.size ≤ q → A q := fun q h => by rw [← hAe]; exact Or.inr h
  have hS : va_S A s.heap s.heap [] := va_S.rf
  have hK := hKK.1
  have hl := lv_entry ([.ref (ad 29), .int x1]) (n := 2) (Nat.le_of_ble_eq_true rfl)
  rw [lg_entry_eq]
  generalize (lg_sl ([.ref (ad 29), .int x1]) ++ List.replicate (2 - (lg_sl ([.ref (ad 29), .int x1])).length) Slot.unset).toArray = ls at hl ⊢
  have hl : lv_has ls 2 [(0, .ref (ad 29)), (1, .int x1)] := hl
  unfold x_AddressStream_hand_29 at h
  refine lv_iload_n hx hb d_AddressStream_hand_0 rfl (lv_at hl 1 rfl) ?_
  refine lv_iconst (v := (-1)) hx hb d_AddressStream_hand_1 (by decide) ?_
  refine lv_icmp_eq (tgt := 21) hx hb d_AddressStream_hand_2 (by decide) (fun hc => ?_) (fun hc => ?_)
  · replace h := if_t hc h
    exact q_vret hx hb hr hlocks h hP hD hS d_AddressStream_hand_21
  · replace h := if_f hc h
    refine lv_aload_n hx hb d_AddressStream_hand_5 rfl (lv_at hl 0 rfl) ?_
    refine xg_29_link hx hb hts hin_AddressStream hown hK hP (hts _ k_257) (fun x9 h9 => u_same (hts _ k_258) x9 h9) d_AddressStream_hand_6 ?_
    refine xg_13_passed hx hb hts hin_Link hown hK hP (hts _ k_220) (fun _ h9 => h9) d_AddressStream_hand_9 ?_
    refine lv_aload_n hx hb d_AddressStream_hand_12 rfl (lv_at hl 0 rfl) ?_
    refine xg_29_registers hx hb hts hin_AddressStream hown hK hP (hts _ k_281) (fun x9 h9 => u_same (hts _ k_282) x9 h9) d_AddressStream_hand_13 ?_
    refine lv_iload_n hx hb d_AddressStream_hand_16 rfl (lv_at hl 1 rfl) ?_
    obtain ⟨hi, h⟩ := gin_e h
    refine xl_20 hx hb hK hP hi d_AddressStream_hand_17 ?_
    obtain ⟨r1, z1, hc1, h⟩ := obn_e h
    refine q_gov (va_runV (As := [.int (z0.2 20 x1.toNatClampNeg)]) (rest := []) ⟨hx, hb, hml, hown, hts⟩ (c_x_Fifo_put_19 l dC dI cI cZ ad z0 (z0.2 20 x1.toNatClampNeg) _ hc1 _) (cwV 1 hts (q_goodL _ (q_l4 k_642 k_613 k_614 k_56) k_615) rfl rfl rfl (by decide +kernel) ⟨Nat.le_of_ble_eq_true rfl, Nat.le_of_ble_eq_true rfl⟩) (q_preV qok hKK hP hD (va_recv (ci := 3) (q0 := 19) hK hP rfl rfl)) rfl rfl hl.1 rfl (lv_room (Nat.le_of_ble_eq_true rfl)) d_AddressStream_hand_18 ⟨Nat.le_refl _, Nat.le_refl _⟩) hD hS hA (fun H locs hP hD hS => ?_)
    exact q_vret hx hb hr hlocks h hP hD hS d_AddressStream_hand_21
def x_Stream_leaveFor_29 (z0 : ST) (x1 : Int32) : OR := bnd (stI z0 15 x1) (fun z1 => bnd (stI z1 16 ((z1.1 16) + 1)) (fun z2 => obn (x_Stream_goOver_29 z2) (fun r3 z3 => gib 1 (some (1, z3)))))
set_option maxRecDepth 100000 in
set_option maxHeartbeats 4000000 in
theorem c_x_Stream_leaveFor_29 (l : Launch) (dC : Nat → ClassId) (dI : Nat → Nat → Nat) (cI cZ : ClassId) (ad : Nat → Nat) (z0 : ST) (x1 : Int32) (R : Int32 × ST) (h : x_Stream_leaveFor_29 z0 x1 = some R) : qMi l y_Stream_leaveFor w_Stream_leaveFor 1 20 (KX dC dI cI cZ) (dC, dI) q_cl (wX cI cZ ad) [.ref (ad 29), .int x1] z0 R := by
  intro sz
  refine Met.ofW (cc := b_Stream_leaveFor) (maxL := 2) (ret := (some .boolean)) (by decide) rfl ?_
  intro p e s m args below meth c s₁ B hml hv
  obtain ⟨rfl, hsz, hP, hKK, hD0⟩ := hv
  have hx := B.exec
  have hb := B.bytes
  have hr := B.returns
  have hts : ∀ w ∈ q_big, w.before _ s = true := fun w h => atoms_spec (ws := w_Stream_leaveFor) B.pre w (List.mem_cons_of_mem _ h)
  have hown : s.vm.findClass "SlippedStreams$Stream" = some m.cls := findClass_of_methodNamed B.named
  have hlocks := B.notSynchronized
  subst hsz
  have hD := hD0.self (sz := s.heap.size)
  generalize hAe : va_A (wX cI cZ ad z0) s.heap.size = A at hD ⊢
  have hA : ∀ q : Nat, s.heap.size ≤ q → A q := fun q h => by rw [← hAe]; exact Or.inr h
  have hS : va_S A s.heap s.heap [] := va_S.rf
  have hK := hKK.1
  have hl := lv_entry ([.ref (ad 29), .int x1]) (n := 2) (Nat.le_of_ble_eq_true rfl)
  rw [lg_entry_eq]
  generalize (lg_sl ([.ref (ad 29), .int x1]) ++ List.replicate (2 - (lg_sl ([.ref (ad 29), .int x1])).length) Slot.unset).toArray = ls at hl ⊢
  have hl : lv_has ls 2 [(0, .ref (ad 29)), (1, .int x1)] := hl
  unfold x_Stream_leaveFor_29 at h
  refine lv_aload_n hx hb d_Stream_leaveFor_0 rfl (lv_at hl 0 rfl) ?_
  refine lv_iload_n hx hb d_Stream_leaveFor_1 rfl (lv_at hl 1 rfl) ?_
  obtain ⟨z1, e1, h⟩ := bnd_e h
  refine xp_29_at hx hb hts hin_AddressStream hown hK hP hD hS (hts _ k_286) (fun x9 h9 => u_same (hts _ k_287) x9 h9) d_Stream_leaveFor_2 e1 (fun H locs hP hD hS => ?_)
  refine lv_aload_n hx hb d_Stream_leaveFor_5 rfl (lv_at hl 0 rfl) ?_
  refine lv_dup hx hb d_Stream_leaveFor_6 rfl ?_
  refine xg_29_left hx hb hts hin_AddressStream hown hK hP (hts _ k_260) (fun _ h9 => h9) d_Stream_leaveFor_7 ?_
  refine lv_iconst (v := 1) hx hb d_Stream_leaveFor_10 (by decide) ?_
  refine lv_iadd hx hb d_Stream_leaveFor_11 ?_
  obtain ⟨z2, e2, h⟩ := bnd_e h
  refine xp_29_left hx hb hts hin_AddressStream hown hK hP hD hS (hts _ k_260) (fun _ h9 => h9) d_Stream_leaveFor_12 e2 (fun H locs hP hD hS => ?_)
  refine lv_aload_n hx hb d_Stream_leaveFor_15 rfl (lv_at hl 0 rfl) ?_
  obtain ⟨r3, z3, hc3, h⟩ := obn_e h
  refine q_gov (va_runU (As := []) (rest := []) ⟨hx, hb, hml, hown, hts⟩ (c_x_Stream_goOver_29 l dC dI cI cZ ad z2 _ hc3 _) (va_cwU 0 hts (q_goodL _ (q_l5 k_466 k_1084 k_0 k_468 k_59) k_469) rfl rfl rfl rfl (by decide +kernel) ⟨Nat.le_of_ble_eq_true rfl, Nat.le_of_ble_eq_true rfl⟩) (q_preV qok hKK hP hD (va_recv (ci := 5) (q0 := 29) hK hP rfl rfl)) rfl rfl hl.1 rfl (lv_room (Nat.le_of_ble_eq_true rfl)) d_Stream_leaveFor_16 ⟨Nat.le_refl _, Nat.le_refl _⟩) hD hS hA (fun H locs hP hD hS => ?_)
  refine lv_iconst (v := 1) hx hb d_Stream_leaveFor_19 (by decide) ?_
  exact q_zret hx hb hr hlocks h hP hD hS d_Stream_leaveFor_20
def x_Run_behind_29 (z0 : ST) (x1 x2 : Int32) : OR := if x2 = 0 then (some (x1 + 1, z0)) else (gin x1 24 (some (z0.2 3 x1.toNatClampNeg, z0)))
set_option maxRecDepth 100000 in
set_option maxHeartbeats 4000000 in
theorem c_x_Run_behind_29 (l : Launch) (dC : Nat → ClassId) (dI : Nat → Nat → Nat) (cI cZ : ClassId) (ad : Nat → Nat) (z0 : ST) (x1 x2 : Int32) (R : Int32 × ST) (h : x_Run_behind_29 z0 x1 x2 = some R) : qMi l y_Run_behind w_Run_behind 0 0 (KX dC dI cI cZ) (dC, dI) q_cl (wX cI cZ ad) [.ref (ad 29), .int x1, .int x2] z0 R := by
  intro sz
  refine Met.ofW (cc := b_Run_behind) (maxL := 3) (ret := (some .int)) (by decide) rfl ?_
  intro p e s m args below meth c s₁ B hml hv
  obtain ⟨rfl, hsz, hP, hKK, hD0⟩ := hv
  have hx := B.exec
  have hb := B.bytes
  have hr := B.returns
  have hts : ∀ w ∈ q_big, w.before _ s = true := fun w h => atoms_spec (ws := w_Run_behind) B.pre w (List.mem_cons_of_mem _ h)
  have hown : s.vm.findClass "SlippedStreams$Run" = some m.cls := findClass_of_methodNamed B.named
  have hlocks := B.notSynchronized
  subst hsz
  have hD := hD0.self (sz := s.heap.size)
  generalize hAe : va_A (wX cI cZ ad z0) s.heap.size = A at hD ⊢
  have hA : ∀ q : Nat, s.heap.size ≤ q → A q := fun q h => by rw [← hAe]; exact Or.inr h
  have hS : va_S A s.heap s.heap [] := va_S.rf
  have hK := hKK.1
  have hl := lv_entry ([.ref (ad 29), .int x1, .int x2]) (n := 3) (Nat.le_of_ble_eq_true rfl)
  rw [lg_entry_eq]
  generalize (lg_sl ([.ref (ad 29), .int x1, .int x2]) ++ List.replicate (3 - (lg_sl ([.ref (ad 29), .int x1, .int x2])).length) Slot.unset).toArray = ls at hl ⊢
  have hl : lv_has ls 3 [(0, .ref (ad 29)), (1, .int x1), (2, .int x2)] := hl
  unfold x_Run_behind_29 at h
  refine lv_iload_n hx hb d_Run_behind_0 rfl (lv_at hl 2 rfl) ?_
  refine lv_if_eq (tgt := 16) hx hb d_Run_behind_1 (by decide) (fun hc => ?_) (fun hc => ?_)
  · replace h := if_t hc h
    refine lv_iload_n hx hb d_Run_behind_16 rfl (lv_at hl 1 rfl) ?_
    refine lv_iconst (v := 1) hx hb d_Run_behind_17 (by decide) ?_
    refine lv_iadd hx hb d_Run_behind_18 ?_
    exact q_iret hx hb hr hlocks h hP hD hS d_Run_behind_19
  · replace h := if_f hc h
    refine lv_aload_n hx hb d_Run_behind_4 rfl (lv_at hl 0 rfl) ?_
    refine xg_29_program hx hb hts hin_AddressStream hown hK hP (hts _ k_265) (fun _ h9 => h9) d_Run_behind_5 ?_
    refine xg_1_cs hx hb hts hin_Program hown hK hP (hts _ k_96) (fun _ h9 => h9) d_Run_behind_8 ?_
    refine lv_iload_n hx hb d_Run_behind_11 rfl (lv_at hl 1 rfl) ?_
    obtain ⟨hi, h⟩ := gin_e h
    refine xl_3 hx hb hK hP hi d_Run_behind_12 ?_
    refine lv_goto (tgt := 19) hx hb d_Run_behind_13 (by decide) ?_
    exact q_iret hx hb hr hlocks h hP hD hS d_Run_behind_19
def x_Fifo_take_18_35 (z0 : ST) (y1 y2 : Int32) : OR := bnd (stI z0 9 y2) (fun z1 => bnd (stI z1 10 ((z1.1 10) - 1)) (fun z2 => some (y1, z2)))
def x_Fifo_take_18 (z0 : ST) : OR := gin (z0.1 9) 4 (if 4 ≤ ((z0.1 9) + 1) then (x_Fifo_take_18_35 z0 (z0.2 15 (z0.1 9).toNatClampNeg) 0) else (x_Fifo_take_18_35 z0 (z0.2 15 (z0.1 9).toNatClampNeg) ((z0.1 9) + 1)))
set_option maxRecDepth 100000 in
set_option maxHeartbeats 4000000 in
theorem c_x_Fifo_take_18 (l : Launch) (dC : Nat → ClassId) (dI : Nat → Nat → Nat) (cI cZ : ClassId) (ad : Nat → Nat) (z0 : ST) (R : Int32 × ST) (h : x_Fifo_take_18 z0 = some R) : qMi l y_Fifo_take w_Fifo_take 0 0 (KX dC dI cI cZ) (dC, dI) q_cl (wX cI cZ ad) [.ref (ad 18)] z0 R := by
  intro sz
  refine Met.ofW (cc := b_Fifo_take) (maxL := 2) (ret := (some .int)) (by decide) rfl ?_
  intro p e s m args below meth c s₁ B hml hv
  obtain ⟨rfl, hsz, hP, hKK, hD0⟩ := hv
  have hx := B.exec
  have hb := B.bytes
  have hr := B.returns
  have hts : ∀ w ∈ q_big, w.before _ s = true := fun w h => atoms_spec (ws := w_Fifo_take) B.pre w (List.mem_cons_of_mem _ h)
  have hown : s.vm.findClass "SlippedStreams$Fifo" = some m.cls := findClass_of_methodNamed B.named
  have hlocks := B.notSynchronized
  subst hsz
  have hD := hD0.self (sz := s.heap.size)
  generalize hAe : va_A (wX cI cZ ad z0) s.heap.size = A at hD ⊢
  have hA : ∀ q : Nat, s.heap.size ≤ q → A q := fun q h => by rw [← hAe]; exact Or.inr h
  have hS : va_S A s.heap s.heap [] := va_S.rf
  have hK := hKK.1
  have hl := lv_entry ([.ref (ad 18)]) (n := 2) (Nat.le_of_ble_eq_true rfl)
  rw [lg_entry_eq]
  generalize (lg_sl ([.ref (ad 18)]) ++ List.replicate (2 - (lg_sl ([.ref (ad 18)])).length) Slot.unset).toArray = ls at hl ⊢
  have hl : lv_has ls 2 [(0, .ref (ad 18))] := hl
  have jp_35 : ∀ (z0 : ST) (y1 y2 : Int32) (H : Heap) (locs : List Loc) (ls : Array Slot), x_Fifo_take_18_35 z0 y1 y2 = some R → va_P (dC, dI) q_cl (wX cI cZ ad z0) H → va_D A (wX cI cZ ad z0) → va_S A s.heap H locs → lv_has ls 2 [(0, .ref (ad 18)), (1, .int y1)] → qWi p l e w_Fifo_take 0 0 s m [.ref (ad 18)] below meth c (dC, dI) q_cl (wX cI cZ ad) A R H locs (F0 m 35 ls [.int y2, .ref (ad 18)]) := by
    intro z0 y1 y2 H locs ls h hP hD hS hl
    unfold x_Fifo_take_18_35 at h
    obtain ⟨z1, e1, h⟩ := bnd_e h
    refine xp_18_first hx hb hts hin_Fifo hown hK hP hD hS (hts _ k_160) (fun _ h9 => h9) d_Fifo_take_35 e1 (fun H locs hP hD hS => ?_)
    refine lv_aload_n hx hb d_Fifo_take_38 rfl (lv_at hl 0 rfl) ?_
    refine lv_dup hx hb d_Fifo_take_39 rfl ?_
    refine xg_18_size hx hb hts hin_Fifo hown hK hP (hts _ k_161) (fun _ h9 => h9) d_Fifo_take_40 ?_
    refine lv_iconst (v := 1) hx hb d_Fifo_take_43 (by decide) ?_
    refine lv_isub hx hb d_Fifo_take_44 ?_
    obtain ⟨z2, e2, h⟩ := bnd_e h
    refine xp_18_size hx hb hts hin_Fifo hown hK hP hD hS (hts _ k_161) (fun _ h9 => h9) d_Fifo_take_45 e2 (fun H locs hP hD hS => ?_)
    refine lv_iload_n hx hb d_Fifo_take_48 rfl (lv_at hl 1 rfl) ?_
    exact q_iret hx hb hr hlocks h hP hD hS d_Fifo_take_49
  unfold x_Fifo_take_18 at h
  refine lv_aload_n hx hb d_Fifo_take_0 rfl (lv_at hl 0 rfl) ?_
  refine xg_18_things hx hb hts hin_Fifo hown hK hP (hts _ k_159) (fun _ h9 => h9) d_Fifo_take_1 ?_
  refine lv_aload_n hx hb d_Fifo_take_4 rfl (lv_at hl 0 rfl) ?_
  refine xg_18_first hx hb hts hin_Fifo hown hK hP (hts _ k_160) (fun _ h9 => h9) d_Fifo_take_5 ?_
  obtain ⟨hi, h⟩ := gin_e h
  refine xl_15 hx hb hK hP hi d_Fifo_take_8 ?_
  refine lv_istore_n (lv' := [(1, .int (z0.2 15 (z0.1 9).toNatClampNeg)), (0, .ref (ad 18))]) hx hb d_Fifo_take_9 rfl hl (by decide) rfl (fun ls hl => ?_)
  refine lv_aload_n hx hb d_Fifo_take_10 rfl (lv_at hl 1 rfl) ?_
  refine lv_aload_n hx hb d_Fifo_take_11 rfl (lv_at hl 1 rfl) ?_
  refine xg_18_first hx hb hts hin_Fifo hown hK hP (hts _ k_160) (fun _ h9 => h9) d_Fifo_take_12 ?_
  refine lv_iconst (v := 1) hx hb d_Fifo_take_15 (by decide) ?_
  refine lv_iadd hx hb d_Fifo_take_16 ?_
  refine lv_aload_n hx hb d_Fifo_take_17 rfl (lv_at hl 1 rfl) ?_
  refine xg_18_things hx hb hts hin_Fifo hown hK hP (hts _ k_159) (fun _ h9 => h9) d_Fifo_take_18 ?_
  refine va_alen (v := 4) hx hb hK hP 23 0 rfl rfl rfl d_Fifo_take_21 ?_
  refine lv_icmp_ge (tgt := 34) hx hb d_Fifo_take_22 (by decide) (fun hc => ?_) (fun hc => ?_)
  · replace h := if_t hc h
    refine lv_iconst (v := 0) hx hb d_Fifo_take_34 (by decide) ?_
    exact jp_35 z0 (z0.2 15 (z0.1 9).toNatClampNeg) 0 _ _ _ h hP hD hS (lv_sub hl [1, 0] rfl)
  · replace h := if_f hc h
    refine lv_aload_n hx hb d_Fifo_take_25 rfl (lv_at hl 1 rfl) ?_
    refine xg_18_first hx hb hts hin_Fifo hown hK hP (hts _ k_160) (fun _ h9 => h9) d_Fifo_take_26 ?_
    refine lv_iconst (v := 1) hx hb d_Fifo_take_29 (by decide) ?_
    refine lv_iadd hx hb d_Fifo_take_30 ?_
    refine lv_goto (tgt := 35) hx hb d_Fifo_take_31 (by decide) ?_
    exact jp_35 z0 (z0.2 15 (z0.1 9).toNatClampNeg) ((z0.1 9) + 1) _ _ _ h hP hD hS (lv_sub hl [1, 0] rfl)
def x_Stream_followOutcome_29_18_24 (z0 : ST) (y1 y2 y3 : Int32) : OR := obn (x_Run_behind_29 z0 y2 y3) (fun r1 z1 => obn (x_Stream_leaveFor_29 z1 r1) (fun r2 z2 => gib r2 (some (r2, z2))))
def x_Stream_followOutcome_29_18 (z0 : ST) (x1 : Int32) : OR := if (z0.1 10) = 0 then (gib 0 (some (0, z0))) else (obn (x_Fifo_take_18 z0) (fun r3 z3 => if r3 = 0 then (x_Stream_followOutcome_29_18_24 z3 x1 x1 0) else (x_Stream_followOutcome_29_18_24 z3 x1 x1 1)))
set_option maxRecDepth 100000 in
set_option maxHeartbeats 4000000 in
theorem c_x_Stream_followOutcome_29_18 (l : Launch) (dC : Nat → ClassId) (dI : Nat → Nat → Nat) (cI cZ : ClassId) (ad : Nat → Nat) (z0 : ST) (x1 : Int32) (R : Int32 × ST) (h : x_Stream_followOutcome_29_18 z0 x1 = some R) : qMi l y_Stream_followOutcome w_Stream_followOutcome 2 41 (KX dC dI cI cZ) (dC, dI) q_cl (wX cI cZ ad) [.ref (ad 29), .int x1, .ref (ad 18)] z0 R := by
  intro sz
  refine Met.ofW (cc := b_Stream_followOutcome) (maxL := 3) (ret := (some .boolean)) (by decide) rfl ?_
  intro p e s m args below meth c s₁ B hml hv
  obtain ⟨rfl, hsz, hP, hKK, hD0⟩ := hv
  have hx := B.exec
  have hb := B.bytes
  have hr := B.returns
  have hts : ∀ w ∈ q_big, w.before _ s = true := fun w h => atoms_spec (ws := w_Stream_followOutcome) B.pre w (List.mem_cons_of_mem _ h)
  have hown : s.vm.findClass "SlippedStreams$Stream" = some m.cls := findClass_of_methodNamed B.named
  have hlocks := B.notSynchronized
  subst hsz
  have hD := hD0.self (sz := s.heap.size)
  generalize hAe : va_A (wX cI cZ ad z0) s.heap.size = A at hD ⊢
  have hA : ∀ q : Nat, s.heap.size ≤ q → A q := fun q h => by rw [← hAe]; exact Or.inr h
  have hS : va_S A s.heap s.heap [] := va_S.rf
  have hK := hKK.1
  have hl := lv_entry ([.ref (ad 29), .int x1, .ref (ad 18)]) (n := 3) (Nat.le_of_ble_eq_true rfl)
  rw [lg_entry_eq]
  generalize (lg_sl ([.ref (ad 29), .int x1, .ref (ad 18)]) ++ List.replicate (3 - (lg_sl ([.ref (ad 29), .int x1, .ref (ad 18)])).length) Slot.unset).toArray = ls at hl ⊢
  have hl : lv_has ls 3 [(0, .ref (ad 29)), (1, .int x1), (2, .ref (ad 18))] := hl
  have jp_24 : ∀ (z0 : ST) (y1 y2 y3 : Int32) (H : Heap) (locs : List Loc) (ls : Array Slot), x_Stream_followOutcome_29_18_24 z0 y1 y2 y3 = some R → va_P (dC, dI) q_cl (wX cI cZ ad z0) H → va_D A (wX cI cZ ad z0) → va_S A s.heap H locs → lv_has ls 3 [(0, .ref (ad 29)), (1, .int y1), (2, .ref (ad 18))] → qWi p l e w_Stream_followOutcome 2 41 s m [.ref (ad 29), .int x1, .ref (ad 18)] below meth c (dC, dI) q_cl (wX cI cZ ad) A R H locs (F0 m 24 ls [.int y3, .int y2, .ref (ad 29), .ref (ad 29)]) := by
    intro z0 y1 y2 y3 H locs ls h hP hD hS hl
    unfold x_Stream_followOutcome_29_18_24 at h
    obtain ⟨r1, z1, hc1, h⟩ := obn_e h
    refine q_goi (va_runU (As := [.int y2, .int y3]) (rest := [.ref (ad 29)]) ⟨hx, hb, hml, hown, hts⟩ (c_x_Run_behind_29 l dC dI cI cZ ad z0 y2 y3 _ hc1 _) (va_cwU 2 hts (q_goodL _ (q_l5 k_616 k_617 k_619 k_621 k_58) k_622) rfl rfl rfl rfl (by decide +kernel) ⟨Nat.le_of_ble_eq_true rfl, Nat.le_of_ble_eq_true rfl⟩) (q_preV qok hKK hP hD (va_recv (ci := 5) (q0 := 29) hK hP rfl rfl)) rfl rfl hl.1 rfl (lv_room (Nat.le_of_ble_eq_true rfl)) d_Stream_followOutcome_24 ⟨Nat.le_refl _, Nat.le_refl _⟩) hD hS hA (fun H locs hP hD hS => ?_)
    obtain ⟨r2, z2, hc2, h⟩ := obn_e h
    refine q_goi (va_runU (As := [.int r1]) (rest := []) ⟨hx, hb, hml, hown, hts⟩ (c_x_Stream_leaveFor_29 l dC dI cI cZ ad z1 r1 _ hc2 _) (va_cwU 1 hts (q_goodL _ (q_l5 k_623 k_1085 k_1086 k_567 k_59) k_568) rfl rfl rfl rfl (by decide +kernel) ⟨Nat.le_of_ble_eq_true rfl, Nat.le_of_ble_eq_true rfl⟩) (q_preV qok hKK hP hD (va_recv (ci := 5) (q0 := 29) hK hP rfl rfl)) rfl rfl hl.1 rfl (lv_room (Nat.le_of_ble_eq_true rfl)) d_Stream_followOutcome_27 ⟨Nat.le_refl _, Nat.le_refl _⟩) hD hS hA (fun H locs hP hD hS => ?_)
    exact q_zret hx hb hr hlocks h hP hD hS d_Stream_followOutcome_30
  unfold x_Stream_followOutcome_29_18 at h
  refine lv_aload_n hx hb d_Stream_followOutcome_0 rfl (lv_at hl 2 rfl) ?_
  refine xg_18_size hx hb hts hin_Fifo hown hK hP (hts _ k_163) (fun _ h9 => h9) d_Stream_followOutcome_1 ?_
  refine lv_if_ne (tgt := 9) hx hb d_Stream_followOutcome_4 (by decide) (fun hc => ?_) (fun hc => ?_)
  · replace h := if_f hc h
    refine lv_aload_n hx hb d_Stream_followOutcome_9 rfl (lv_at hl 0 rfl) ?_
    refine lv_aload_n hx hb d_Stream_followOutcome_10 rfl (lv_at hl 0 rfl) ?_
    refine lv_iload_n hx hb d_Stream_followOutcome_11 rfl (lv_at hl 1 rfl) ?_
    refine lv_aload_n hx hb d_Stream_followOutcome_12 rfl (lv_at hl 2 rfl) ?_
    obtain ⟨r3, z3, hc3, h⟩ := obn_e h
    refine q_goi (va_runV (As := []) (rest := [.int x1, .ref (ad 29), .ref (ad 29)]) ⟨hx, hb, hml, hown, hts⟩ (c_x_Fifo_take_18 l dC dI cI cZ ad z0 _ hc3 _) (cwV 0 hts (q_goodL _ (q_l4 k_654 k_591 k_592 k_56) k_593) rfl rfl rfl (by decide +kernel) ⟨Nat.le_of_ble_eq_true rfl, Nat.le_of_ble_eq_true rfl⟩) (q_preV qok hKK hP hD (va_recv (ci := 3) (q0 := 18) hK hP rfl rfl)) rfl rfl hl.1 rfl (lv_room (Nat.le_of_ble_eq_true rfl)) d_Stream_followOutcome_13 ⟨Nat.le_refl _, Nat.le_refl _⟩) hD hS hA (fun H locs hP hD hS => ?_)
    refine lv_if_eq (tgt := 23) hx hb d_Stream_followOutcome_16 (by decide) (fun hc => ?_) (fun hc => ?_)
    · replace h := if_t hc h
      refine lv_iconst (v := 0) hx hb d_Stream_followOutcome_23 (by decide) ?_
      exact jp_24 z3 x1 x1 0 _ _ _ h hP hD hS (lv_sub hl [0, 1, 2] rfl)
    · replace h := if_f hc h
      refine lv_iconst (v := 1) hx hb d_Stream_followOutcome_19 (by decide) ?_
      refine lv_goto (tgt := 24) hx hb d_Stream_followOutcome_20 (by decide) ?_
      exact jp_24 z3 x1 x1 1 _ _ _ h hP hD hS (lv_sub hl [0, 1, 2] rfl)
  · replace h := if_t hc h
    refine lv_iconst (v := 0) hx hb d_Stream_followOutcome_7 (by decide) ?_
    exact q_zret hx hb hr hlocks h hP hD hS d_Stream_followOutcome_8
def x_Run_wordAddress_29 (z0 : ST) (x1 : Int32) : OR := gin x1 24 (gin (z0.2 2 x1.toNatClampNeg) 8 (gin x1 24 (some (((z0.2 20 (z0.2 2 x1.toNatClampNeg).toNatClampNeg) + (z0.2 3 x1.toNatClampNeg)) &&& 31, z0))))
set_option maxRecDepth 100000 in
set_option maxHeartbeats 4000000 in
theorem c_x_Run_wordAddress_29 (l : Launch) (dC : Nat → ClassId) (dI : Nat → Nat → Nat) (cI cZ : ClassId) (ad : Nat → Nat) (z0 : ST) (x1 : Int32) (R : Int32 × ST) (h : x_Run_wordAddress_29 z0 x1 = some R) : qMi l y_Run_wordAddress w_Run_wordAddress 0 0 (KX dC dI cI cZ) (dC, dI) q_cl (wX cI cZ ad) [.ref (ad 29), .int x1] z0 R := by
  intro sz
  refine Met.ofW (cc := b_Run_wordAddress) (maxL := 2) (ret := (some .int)) (by decide) rfl ?_
  intro p e s m args below meth c s₁ B hml hv
  obtain ⟨rfl, hsz, hP, hKK, hD0⟩ := hv
  have hx := B.exec
  have hb := B.bytes
  have hr := B.returns
  have hts : ∀ w ∈ q_big, w.before _ s = true := fun w h => atoms_spec (ws := w_Run_wordAddress) B.pre w (List.mem_cons_of_mem _ h)
  have hown : s.vm.findClass "SlippedStreams$Run" = some m.cls := findClass_of_methodNamed B.named
  have hlocks := B.notSynchronized
  subst hsz
  have hD := hD0.self (sz := s.heap.size)
  generalize hAe : va_A (wX cI cZ ad z0) s.heap.size = A at hD ⊢
  have hA : ∀ q : Nat, s.heap.size ≤ q → A q := fun q h => by rw [← hAe]; exact Or.inr h
  have hS : va_S A s.heap s.heap [] := va_S.rf
  have hK := hKK.1
  have hl := lv_entry ([.ref (ad 29), .int x1]) (n := 2) (Nat.le_of_ble_eq_true rfl)
  rw [lg_entry_eq]
  generalize (lg_sl ([.ref (ad 29), .int x1]) ++ List.replicate (2 - (lg_sl ([.ref (ad 29), .int x1])).length) Slot.unset).toArray = ls at hl ⊢
  have hl : lv_has ls 2 [(0, .ref (ad 29)), (1, .int x1)] := hl
  unfold x_Run_wordAddress_29 at h
  refine lv_aload_n hx hb d_Run_wordAddress_0 rfl (lv_at hl 0 rfl) ?_
  refine xg_29_registers hx hb hts hin_AddressStream hown hK hP (hts _ k_274) (fun _ h9 => h9) d_Run_wordAddress_1 ?_
  refine lv_aload_n hx hb d_Run_wordAddress_4 rfl (lv_at hl 0 rfl) ?_
  refine xg_29_program hx hb hts hin_AddressStream hown hK hP (hts _ k_265) (fun _ h9 => h9) d_Run_wordAddress_5 ?_
  refine xg_1_bs hx hb hts hin_Program hown hK hP (hts _ k_94) (fun _ h9 => h9) d_Run_wordAddress_8 ?_
  refine lv_iload_n hx hb d_Run_wordAddress_11 rfl (lv_at hl 1 rfl) ?_
  obtain ⟨hi, h⟩ := gin_e h
  refine xl_2 hx hb hK hP hi d_Run_wordAddress_12 ?_
  obtain ⟨hi, h⟩ := gin_e h
  refine xl_20 hx hb hK hP hi d_Run_wordAddress_13 ?_
  refine lv_aload_n hx hb d_Run_wordAddress_14 rfl (lv_at hl 0 rfl) ?_
  refine xg_29_program hx hb hts hin_AddressStream hown hK hP (hts _ k_265) (fun _ h9 => h9) d_Run_wordAddress_15 ?_
  refine xg_1_cs hx hb hts hin_Program hown hK hP (hts _ k_96) (fun _ h9 => h9) d_Run_wordAddress_18 ?_
  refine lv_iload_n hx hb d_Run_wordAddress_21 rfl (lv_at hl 1 rfl) ?_
  obtain ⟨hi, h⟩ := gin_e h
  refine xl_3 hx hb hK hP hi d_Run_wordAddress_22 ?_
  refine lv_iadd hx hb d_Run_wordAddress_23 ?_
  refine lv_bipush (v := 31) hx hb d_Run_wordAddress_24 (by decide) ?_
  refine lv_iand hx hb d_Run_wordAddress_26 ?_
  exact q_iret hx hb hr hlocks h hP hD hS d_Run_wordAddress_27
def x_StoreList_slot_25 (z0 : ST) (x1 : Int32) : OR := some (((z0.1 13) + x1) - ((z0.1 13) + x1) / 6 * 6, z0)
set_option maxRecDepth 100000 in
set_option maxHeartbeats 4000000 in
theorem c_x_StoreList_slot_25 (l : Launch) (dC : Nat → ClassId) (dI : Nat → Nat → Nat) (cI cZ : ClassId) (ad : Nat → Nat) (z0 : ST) (x1 : Int32) (R : Int32 × ST) (h : x_StoreList_slot_25 z0 x1 = some R) : qMi l y_StoreList_slot w_StoreList_slot 0 0 (KX dC dI cI cZ) (dC, dI) q_cl (wX cI cZ ad) [.ref (ad 25), .int x1] z0 R := by
  intro sz
  refine Met.ofW (cc := b_StoreList_slot) (maxL := 2) (ret := (some .int)) (by decide) rfl ?_
  intro p e s m args below meth c s₁ B hml hv
  obtain ⟨rfl, hsz, hP, hKK, hD0⟩ := hv
  have hx := B.exec
  have hb := B.bytes
  have hr := B.returns
  have hts : ∀ w ∈ q_big, w.before _ s = true := fun w h => atoms_spec (ws := w_StoreList_slot) B.pre w (List.mem_cons_of_mem _ h)
  have hown : s.vm.findClass "SlippedStreams$StoreList" = some m.cls := findClass_of_methodNamed B.named
  have hlocks := B.notSynchronized
  subst hsz
  have hD := hD0.self (sz := s.heap.size)
  generalize hAe : va_A (wX cI cZ ad z0) s.heap.size = A at hD ⊢
  have hA : ∀ q : Nat, s.heap.size ≤ q → A q := fun q h => by rw [← hAe]; exact Or.inr h
  have hS : va_S A s.heap s.heap [] := va_S.rf
  have hK := hKK.1
  have hl := lv_entry ([.ref (ad 25), .int x1]) (n := 2) (Nat.le_of_ble_eq_true rfl)
  rw [lg_entry_eq]
  generalize (lg_sl ([.ref (ad 25), .int x1]) ++ List.replicate (2 - (lg_sl ([.ref (ad 25), .int x1])).length) Slot.unset).toArray = ls at hl ⊢
  have hl : lv_has ls 2 [(0, .ref (ad 25)), (1, .int x1)] := hl
  unfold x_StoreList_slot_25 at h
  refine lv_aload_n hx hb d_StoreList_slot_0 rfl (lv_at hl 0 rfl) ?_
  refine xg_25_first hx hb hts hin_StoreList hown hK hP (hts _ k_183) (fun _ h9 => h9) d_StoreList_slot_1 ?_
  refine lv_iload_n hx hb d_StoreList_slot_4 rfl (lv_at hl 1 rfl) ?_
  refine lv_iadd hx hb d_StoreList_slot_5 ?_
  refine lv_bipush (v := 6) hx hb d_StoreList_slot_6 (by decide) ?_
  refine lv_irem hx hb d_StoreList_slot_8 (by decide) ?_
  exact q_iret hx hb hr hlocks h hP hD hS d_StoreList_slot_9
def x_StoreList_holds_25_g0 (k : Nat → ST → Int32 → Int32 → OR) (z0 : ST) (y1 y2 : Int32) : OR := k 1 z0 y1 0
def x_StoreList_holds_25_g2 (k : Nat → ST → Int32 → Int32 → OR) (z0 : ST) (y1 y2 : Int32) : OR := if (z0.1 14) ≤ y2 then (gib 0 (some (0, z0))) else (obn (x_StoreList_slot_25 z0 y2) (fun r1 z1 => gin r1 6 (if (z1.2 17 r1.toNatClampNeg) = y1 then (gib 1 (some (1, z1))) else (k 1 z1 y1 (y2 + 1)))))
def x_StoreList_holds_25_g (k : Nat → ST → Int32 → Int32 → OR) (n : Nat) : ST → Int32 → Int32 → OR := match n with
  | 0 => x_StoreList_holds_25_g0 k
  | 1 => x_StoreList_holds_25_g2 k
  | _ => fun _ _ _ => none
def x_StoreList_holds_25_f : Nat → Nat → ST → Int32 → Int32 → OR
  | 0 => fun _ _ _ _ => none
  | n + 1 => x_StoreList_holds_25_g (x_StoreList_holds_25_f n)
def x_StoreList_holds_25 (z0 : ST) (x1 : Int32) : OR := x_StoreList_holds_25_f 4000 0 z0 x1 0
set_option maxRecDepth 100000 in
set_option maxHeartbeats 4000000 in
theorem c_x_StoreList_holds_25 (l : Launch) (dC : Nat → ClassId) (dI : Nat → Nat → Nat) (cI cZ : ClassId) (ad : Nat → Nat) (z0 : ST) (x1 : Int32) (R : Int32 × ST) (h : x_StoreList_holds_25 z0 x1 = some R) : qMi l y_StoreList_holds w_StoreList_holds 1 21 (KX dC dI cI cZ) (dC, dI) q_cl (wX cI cZ ad) [.ref (ad 25), .int x1] z0 R := by
  intro sz
  refine Met.ofW (cc := b_StoreList_holds) (maxL := 3) (ret := (some .boolean)) (by decide) rfl ?_
  intro p e s m args below meth c s₁ B hml hv
  obtain ⟨rfl, hsz, hP, hKK, hD0⟩ := hv
  have hx := B.exec
  have hb := B.bytes
  have hr := B.returns
  have hts : ∀ w ∈ q_big, w.before _ s = true := fun w h => atoms_spec (ws := w_StoreList_holds) B.pre w (List.mem_cons_of_mem _ h)
  have hown : s.vm.findClass "SlippedStreams$StoreList" = some m.cls := findClass_of_methodNamed B.named
  have hlocks := B.notSynchronized
  subst hsz
  have hD := hD0.self (sz := s.heap.size)
  generalize hAe : va_A (wX cI cZ ad z0) s.heap.size = A at hD ⊢
  have hA : ∀ q : Nat, s.heap.size ≤ q → A q := fun q h => by rw [← hAe]; exact Or.inr h
  have hS : va_S A s.heap s.heap [] := va_S.rf
  have hK := hKK.1
  have hl := lv_entry ([.ref (ad 25), .int x1]) (n := 3) (Nat.le_of_ble_eq_true rfl)
  rw [lg_entry_eq]
  generalize (lg_sl ([.ref (ad 25), .int x1]) ++ List.replicate (3 - (lg_sl ([.ref (ad 25), .int x1])).length) Slot.unset).toArray = ls at hl ⊢
  have hl : lv_has ls 3 [(0, .ref (ad 25)), (1, .int x1)] := hl
  have key : ∀ n : Nat, (∀ (z0 : ST) (y1 y2 : Int32) (H : Heap) (locs : List Loc) (ls : Array Slot), x_StoreList_holds_25_f n 0 z0 y1 y2 = some R → va_P (dC, dI) q_cl (wX cI cZ ad z0) H → va_D A (wX cI cZ ad z0) → va_S A s.heap H locs → lv_has ls 3 [(0, .ref (ad 25)), (1, .int y1)] → qWi p l e w_StoreList_holds 1 21 s m [.ref (ad 25), .int x1] below meth c (dC, dI) q_cl (wX cI cZ ad) A R H locs (F0 m 0 ls [])) ∧ (∀ (z0 : ST) (y1 y2 : Int32) (H : Heap) (locs : List Loc) (ls : Array Slot), x_StoreList_holds_25_f n 1 z0 y1 y2 = some R → va_P (dC, dI) q_cl (wX cI cZ ad z0) H → va_D A (wX cI cZ ad z0) → va_S A s.heap H locs → lv_has ls 3 [(0, .ref (ad 25)), (1, .int y1), (2, .int y2)] → qWi p l e w_StoreList_holds 1 21 s m [.ref (ad 25), .int x1] below meth c (dC, dI) q_cl (wX cI cZ ad) A R H locs (F0 m 2 ls [])) := by
    intro n
    induction n with
    | zero => exact ⟨fun z0 y1 y2 H locs ls h hP hD hS hl => (by cases h), fun z0 y1 y2 H locs ls h hP hD hS hl => (by cases h)⟩
    | succ n ih =>
      obtain ⟨jp_0, jp_2⟩ := ih
      refine ⟨?_, ?_⟩
      · intro z0 y1 y2 H locs ls h hP hD hS hl
        replace h : x_StoreList_holds_25_g0 (x_StoreList_holds_25_f n) z0 y1 y2 = some R := h
        unfold x_StoreList_holds_25_g0 at h
        refine lv_iconst (v := 0) hx hb d_StoreList_holds_0 (by decide) ?_
        refine lv_istore_n (lv' := [(2, .int 0), (0, .ref (ad 25)), (1, .int y1)]) hx hb d_StoreList_holds_1 rfl hl (by decide) rfl (fun ls hl => ?_)
        exact jp_2 z0 y1 0 _ _ _ h hP hD hS (lv_sub hl [1, 2, 0] rfl)
      · intro z0 y1 y2 H locs ls h hP hD hS hl
        replace h : x_StoreList_holds_25_g2 (x_StoreList_holds_25_f n) z0 y1 y2 = some R := h
        unfold x_StoreList_holds_25_g2 at h
        refine lv_iload_n hx hb d_StoreList_holds_2 rfl (lv_at hl 2 rfl) ?_
        refine lv_aload_n hx hb d_StoreList_holds_3 rfl (lv_at hl 0 rfl) ?_
        refine xg_25_size hx hb hts hin_StoreList hown hK hP (hts _ k_184) (fun _ h9 => h9) d_StoreList_holds_4 ?_
        refine lv_icmp_ge (tgt := 32) hx hb d_StoreList_holds_7 (by decide) (fun hc => ?_) (fun hc => ?_)
        · replace h := if_t hc h
          refine lv_iconst (v := 0) hx hb d_StoreList_holds_32 (by decide) ?_
          exact q_zret hx hb hr hlocks h hP hD hS d_StoreList_holds_33
        · replace h := if_f hc h
          refine lv_aload_n hx hb d_StoreList_holds_10 rfl (lv_at hl 0 rfl) ?_
          refine xg_25_addresses hx hb hts hin_StoreList hown hK hP (hts _ k_180) (fun _ h9 => h9) d_StoreList_holds_11 ?_
          refine lv_aload_n hx hb d_StoreList_holds_14 rfl (lv_at hl 0 rfl) ?_
          refine lv_iload_n hx hb d_StoreList_holds_15 rfl (lv_at hl 2 rfl) ?_
          obtain ⟨r1, z1, hc1, h⟩ := obn_e h
          refine q_goi (va_runV (As := [.int y2]) (rest := [.ref (ad 26)]) ⟨hx, hb, hml, hown, hts⟩ (c_x_StoreList_slot_25 l dC dI cI cZ ad z0 y2 _ hc1 _) (cwV 1 hts (q_goodL _ (q_l4 k_559 k_561 k_15 k_57) k_562) rfl rfl rfl (by decide +kernel) ⟨Nat.le_of_ble_eq_true rfl, Nat.le_of_ble_eq_true rfl⟩) (q_preV qok hKK hP hD (va_recv (ci := 4) (q0 := 25) hK hP rfl rfl)) rfl rfl hl.1 rfl (lv_room (Nat.le_of_ble_eq_true rfl)) d_StoreList_holds_16 ⟨Nat.le_refl _, Nat.le_refl _⟩) hD hS hA (fun H locs hP hD hS => ?_)
          obtain ⟨hi, h⟩ := gin_e h
          refine xl_17 hx hb hK hP hi d_StoreList_holds_19 ?_
          refine lv_iload_n hx hb d_StoreList_holds_20 rfl (lv_at hl 1 rfl) ?_
          refine lv_icmp_ne (tgt := 26) hx hb d_StoreList_holds_21 (by decide) (fun hc => ?_) (fun hc => ?_)
          · replace h := if_f hc h
            refine lv_iinc (k := 2) (v := y2 + 1) (lv' := [(2, .int (y2 + 1)), (0, .ref (ad 25)), (1, .int y1)]) hx hb d_StoreList_holds_26 hl rfl rfl (by decide) rfl (fun ls hl => ?_)
            refine lv_goto (tgt := 2) hx hb d_StoreList_holds_29 (by decide) ?_
            exact jp_2 z1 y1 (y2 + 1) _ _ _ h hP hD hS (lv_sub hl [1, 2, 0] rfl)
          · replace h := if_t hc h
            refine lv_iconst (v := 1) hx hb d_StoreList_holds_24 (by decide) ?_
            exact q_zret hx hb hr hlocks h hP hD hS d_StoreList_holds_25
  exact (key 4000).1 z0 x1 0 _ _ _ h hP hD hS (lv_sub hl [0, 1] rfl)
def x_Fifo_hasRoomFor_15 (z0 : ST) (x1 : Int32) : OR := if 4 < ((z0.1 4) + x1) then (gib 0 (some (0, z0))) else (gib 1 (some (1, z0)))
set_option maxRecDepth 100000 in
set_option maxHeartbeats 4000000 in
theorem c_x_Fifo_hasRoomFor_15 (l : Launch) (dC : Nat → ClassId) (dI : Nat → Nat → Nat) (cI cZ : ClassId) (ad : Nat → Nat) (z0 : ST) (x1 : Int32) (R : Int32 × ST) (h : x_Fifo_hasRoomFor_15 z0 x1 = some R) : qMi l y_Fifo_hasRoomFor w_Fifo_hasRoomFor 0 0 (KX dC dI cI cZ) (dC, dI) q_cl (wX cI cZ ad) [.ref (ad 15), .int x1] z0 R := by
  intro sz
  refine Met.ofW (cc := b_Fifo_hasRoomFor) (maxL := 2) (ret := (some .boolean)) (by decide) rfl ?_
  intro p e s m args below meth c s₁ B hml hv
  obtain ⟨rfl, hsz, hP, hKK, hD0⟩ := hv
  have hx := B.exec
  have hb := B.bytes
  have hr := B.returns
  have hts : ∀ w ∈ q_big, w.before _ s = true := fun w h => atoms_spec (ws := w_Fifo_hasRoomFor) B.pre w (List.mem_cons_of_mem _ h)
  have hown : s.vm.findClass "SlippedStreams$Fifo" = some m.cls := findClass_of_methodNamed B.named
  have hlocks := B.notSynchronized
  subst hsz
  have hD := hD0.self (sz := s.heap.size)
  generalize hAe : va_A (wX cI cZ ad z0) s.heap.size = A at hD ⊢
  have hA : ∀ q : Nat, s.heap.size ≤ q → A q := fun q h => by rw [← hAe]; exact Or.inr h
  have hS : va_S A s.heap s.heap [] := va_S.rf
  have hK := hKK.1
  have hl := lv_entry ([.ref (ad 15), .int x1]) (n := 2) (Nat.le_of_ble_eq_true rfl)
  rw [lg_entry_eq]
  generalize (lg_sl ([.ref (ad 15), .int x1]) ++ List.replicate (2 - (lg_sl ([.ref (ad 15), .int x1])).length) Slot.unset).toArray = ls at hl ⊢
  have hl : lv_has ls 2 [(0, .ref (ad 15)), (1, .int x1)] := hl
  unfold x_Fifo_hasRoomFor_15 at h
  refine lv_aload_n hx hb d_Fifo_hasRoomFor_0 rfl (lv_at hl 0 rfl) ?_
  refine xg_15_size hx hb hts hin_Fifo hown hK hP (hts _ k_161) (fun _ h9 => h9) d_Fifo_hasRoomFor_1 ?_
  refine lv_iload_n hx hb d_Fifo_hasRoomFor_4 rfl (lv_at hl 1 rfl) ?_
  refine lv_iadd hx hb d_Fifo_hasRoomFor_5 ?_
  refine lv_aload_n hx hb d_Fifo_hasRoomFor_6 rfl (lv_at hl 0 rfl) ?_
  refine xg_15_things hx hb hts hin_Fifo hown hK hP (hts _ k_159) (fun _ h9 => h9) d_Fifo_hasRoomFor_7 ?_
  refine va_alen (v := 4) hx hb hK hP 20 0 rfl rfl rfl d_Fifo_hasRoomFor_10 ?_
  refine lv_icmp_gt (tgt := 18) hx hb d_Fifo_hasRoomFor_11 (by decide) (fun hc => ?_) (fun hc => ?_)
  · replace h := if_t hc h
    refine lv_iconst (v := 0) hx hb d_Fifo_hasRoomFor_18 (by decide) ?_
    exact q_zret hx hb hr hlocks h hP hD hS d_Fifo_hasRoomFor_19
  · replace h := if_f hc h
    refine lv_iconst (v := 1) hx hb d_Fifo_hasRoomFor_14 (by decide) ?_
    refine lv_goto (tgt := 19) hx hb d_Fifo_hasRoomFor_15 (by decide) ?_
    exact q_zret hx hb hr hlocks h hP hD hS d_Fifo_hasRoomFor_19
def x_Fifo_put_15_34 (z0 : ST) (y1 y2 y3 : Int32) : OR := gin y3 4 (bnd (stA z0 12 (upd (z0.2 12) y3.toNatClampNeg y1)) (fun z1 => bnd (stI z1 4 ((z1.1 4) + 1)) (fun z2 => some (0, z2))))
def x_Fifo_put_15 (z0 : ST) (x1 : Int32) : OR := if 4 ≤ ((z0.1 3) + (z0.1 4)) then (x_Fifo_put_15_34 z0 x1 ((z0.1 3) + (z0.1 4)) (((z0.1 3) + (z0.1 4)) - 4)) else (x_Fifo_put_15_34 z0 x1 ((z0.1 3) + (z0.1 4)) ((z0.1 3) + (z0.1 4)))
set_option maxRecDepth 100000 in
set_option maxHeartbeats 4000000 in
theorem c_x_Fifo_put_15 (l : Launch) (dC : Nat → ClassId) (dI : Nat → Nat → Nat) (cI cZ : ClassId) (ad : Nat → Nat) (z0 : ST) (x1 : Int32) (R : Int32 × ST) (h : x_Fifo_put_15 z0 x1 = some R) : qMv l y_Fifo_put w_Fifo_put 0 0 (KX dC dI cI cZ) (dC, dI) q_cl (wX cI cZ ad) [.ref (ad 15), .int x1] z0 R := by
  intro sz
  refine Met.ofW (cc := b_Fifo_put) (maxL := 3) (ret := none) (by decide) rfl ?_
  intro p e s m args below meth c s₁ B hml hv
  obtain ⟨rfl, hsz, hP, hKK, hD0⟩ := hv
  have hx := B.exec
  have hb := B.bytes
  have hr := B.returns
  have hts : ∀ w ∈ q_big, w.before _ s = true := fun w h => atoms_spec (ws := w_Fifo_put) B.pre w (List.mem_cons_of_mem _ h)
  have hown : s.vm.findClass "SlippedStreams$Fifo" = some m.cls := findClass_of_methodNamed B.named
  have hlocks := B.notSynchronized
  subst hsz
  have hD := hD0.self (sz := s.heap.size)
  generalize hAe : va_A (wX cI cZ ad z0) s.heap.size = A at hD ⊢
  have hA : ∀ q : Nat, s.heap.size ≤ q → A q := fun q h => by rw [← hAe]; exact Or.inr h
  have hS : va_S A s.heap s.heap [] := va_S.rf
  have hK := hKK.1
  have hl := lv_entry ([.ref (ad 15), .int x1]) (n := 3) (Nat.le_of_ble_eq_true rfl)
  rw [lg_entry_eq]
  generalize (lg_sl ([.ref (ad 15), .int x1]) ++ List.replicate (3 - (lg_sl ([.ref (ad 15), .int x1])).length) Slot.unset).toArray = ls at hl ⊢
  have hl : lv_has ls 3 [(0, .ref (ad 15)), (1, .int x1)] := hl
  have jp_34 : ∀ (z0 : ST) (y1 y2 y3 : Int32) (H : Heap) (locs : List Loc) (ls : Array Slot), x_Fifo_put_15_34 z0 y1 y2 y3 = some R → va_P (dC, dI) q_cl (wX cI cZ ad z0) H → va_D A (wX cI cZ ad z0) → va_S A s.heap H locs → lv_has ls 3 [(0, .ref (ad 15)), (1, .int y1), (2, .int y2)] → qWv p l e w_Fifo_put 0 0 s m [.ref (ad 15), .int x1] below meth c (dC, dI) q_cl (wX cI cZ ad) A R H locs (F0 m 34 ls [.int y3, .ref (ad 20)]) := by
    intro z0 y1 y2 y3 H locs ls h hP hD hS hl
    unfold x_Fifo_put_15_34 at h
    refine lv_iload_n hx hb d_Fifo_put_34 rfl (lv_at hl 1 rfl) ?_
    obtain ⟨hi, h⟩ := gin_e h
    obtain ⟨z1, e1, h⟩ := bnd_e h
    refine xs_12 hx hb hK hP hD hS hi d_Fifo_put_35 e1 (fun H locs hP hD hS => ?_)
    refine lv_aload_n hx hb d_Fifo_put_36 rfl (lv_at hl 0 rfl) ?_
    refine lv_dup hx hb d_Fifo_put_37 rfl ?_
    refine xg_15_size hx hb hts hin_Fifo hown hK hP (hts _ k_161) (fun _ h9 => h9) d_Fifo_put_38 ?_
    refine lv_iconst (v := 1) hx hb d_Fifo_put_41 (by decide) ?_
    refine lv_iadd hx hb d_Fifo_put_42 ?_
    obtain ⟨z2, e2, h⟩ := bnd_e h
    refine xp_15_size hx hb hts hin_Fifo hown hK hP hD hS (hts _ k_161) (fun _ h9 => h9) d_Fifo_put_43 e2 (fun H locs hP hD hS => ?_)
    exact q_vret hx hb hr hlocks h hP hD hS d_Fifo_put_46
  unfold x_Fifo_put_15 at h
  refine lv_aload_n hx hb d_Fifo_put_0 rfl (lv_at hl 0 rfl) ?_
  refine xg_15_first hx hb hts hin_Fifo hown hK hP (hts _ k_160) (fun _ h9 => h9) d_Fifo_put_1 ?_
  refine lv_aload_n hx hb d_Fifo_put_4 rfl (lv_at hl 0 rfl) ?_
  refine xg_15_size hx hb hts hin_Fifo hown hK hP (hts _ k_161) (fun _ h9 => h9) d_Fifo_put_5 ?_
  refine lv_iadd hx hb d_Fifo_put_8 ?_
  refine lv_istore_n (lv' := [(2, .int ((z0.1 3) + (z0.1 4))), (0, .ref (ad 15)), (1, .int x1)]) hx hb d_Fifo_put_9 rfl hl (by decide) rfl (fun ls hl => ?_)
  refine lv_aload_n hx hb d_Fifo_put_10 rfl (lv_at hl 1 rfl) ?_
  refine xg_15_things hx hb hts hin_Fifo hown hK hP (hts _ k_159) (fun _ h9 => h9) d_Fifo_put_11 ?_
  refine lv_iload_n hx hb d_Fifo_put_14 rfl (lv_at hl 0 rfl) ?_
  refine lv_aload_n hx hb d_Fifo_put_15 rfl (lv_at hl 1 rfl) ?_
  refine xg_15_things hx hb hts hin_Fifo hown hK hP (hts _ k_159) (fun _ h9 => h9) d_Fifo_put_16 ?_
  refine va_alen (v := 4) hx hb hK hP 20 0 rfl rfl rfl d_Fifo_put_19 ?_
  refine lv_icmp_ge (tgt := 27) hx hb d_Fifo_put_20 (by decide) (fun hc => ?_) (fun hc => ?_)
  · replace h := if_t hc h
    refine lv_iload_n hx hb d_Fifo_put_27 rfl (lv_at hl 0 rfl) ?_
    refine lv_aload_n hx hb d_Fifo_put_28 rfl (lv_at hl 1 rfl) ?_
    refine xg_15_things hx hb hts hin_Fifo hown hK hP (hts _ k_159) (fun _ h9 => h9) d_Fifo_put_29 ?_
    refine va_alen (v := 4) hx hb hK hP 20 0 rfl rfl rfl d_Fifo_put_32 ?_
    refine lv_isub hx hb d_Fifo_put_33 ?_
    exact jp_34 z0 x1 ((z0.1 3) + (z0.1 4)) (((z0.1 3) + (z0.1 4)) - 4) _ _ _ h hP hD hS (lv_sub hl [1, 2, 0] rfl)
  · replace h := if_f hc h
    refine lv_iload_n hx hb d_Fifo_put_23 rfl (lv_at hl 0 rfl) ?_
    refine lv_goto (tgt := 34) hx hb d_Fifo_put_24 (by decide) ?_
    exact jp_34 z0 x1 ((z0.1 3) + (z0.1 4)) ((z0.1 3) + (z0.1 4)) _ _ _ h hP hD hS (lv_sub hl [1, 2, 0] rfl)
def x_AddressStream_sendLoad_29 (z0 : ST) (x1 : Int32) : OR := obn (x_Run_wordAddress_29 z0 x1) (fun r1 z1 => obn (x_StoreList_holds_25 z1 r1) (fun r2 z2 => if r2 = 0 then (obn (x_Fifo_hasRoomFor_15 z2 1) (fun r3 z3 => if r3 = 0 then (gib 0 (some (0, z3))) else (gin r1 32 (obn (x_Fifo_put_15 z3 (z3.2 11 r1.toNatClampNeg)) (fun r4 z4 => obn (x_Stream_leaveFor_29 z4 (x1 + 1)) (fun r5 z5 => gib r5 (some (r5, z5)))))))) else (gib 0 (some (0, z2)))))
set_option maxRecDepth 100000 in
set_option maxHeartbeats 4000000 in
theorem c_x_AddressStream_sendLoad_29 (l : Launch) (dC : Nat → ClassId) (dI : Nat → Nat → Nat) (cI cZ : ClassId) (ad : Nat → Nat) (z0 : ST) (x1 : Int32) (R : Int32 × ST) (h : x_AddressStream_sendLoad_29 z0 x1 = some R) : qMi l y_AddressStream_sendLoad w_AddressStream_sendLoad 2 43 (KX dC dI cI cZ) (dC, dI) q_cl (wX cI cZ ad) [.ref (ad 29), .int x1] z0 R := by
  intro sz
  refine Met.ofW (cc := b_AddressStream_sendLoad) (maxL := 3) (ret := (some .boolean)) (by decide) rfl ?_
  intro p e s m args below meth c s₁ B hml hv
  obtain ⟨rfl, hsz, hP, hKK, hD0⟩ := hv
  have hx := B.exec
  have hb := B.bytes
  have hr := B.returns
  have hts : ∀ w ∈ q_big, w.before _ s = true := fun w h => atoms_spec (ws := w_AddressStream_sendLoad) B.pre w (List.mem_cons_of_mem _ h)
  have hown : s.vm.findClass "SlippedStreams$AddressStream" = some m.cls := findClass_of_methodNamed B.named
  have hlocks := B.notSynchronized
  subst hsz
  have hD := hD0.self (sz := s.heap.size)
  generalize hAe : va_A (wX cI cZ ad z0) s.heap.size = A at hD ⊢
  have hA : ∀ q : Nat, s.heap.size ≤ q → A q := fun q h => by rw [← hAe]; exact Or.inr h
  have hS : va_S A s.heap s.heap [] := va_S.rf
  have hK := hKK.1
  have hl := lv_entry ([.ref (ad 29), .int x1]) (n := 3) (Nat.le_of_ble_eq_true rfl)
  rw [lg_entry_eq]
  generalize (lg_sl ([.ref (ad 29), .int x1]) ++ List.replicate (3 - (lg_sl ([.ref (ad 29), .int x1])).length) Slot.unset).toArray = ls at hl ⊢
  have hl : lv_has ls 3 [(0, .ref (ad 29)), (1, .int x1)] := hl
  unfold x_AddressStream_sendLoad_29 at h
  refine lv_aload_n hx hb d_AddressStream_sendLoad_0 rfl (lv_at hl 0 rfl) ?_
  refine lv_iload_n hx hb d_AddressStream_sendLoad_1 rfl (lv_at hl 1 rfl) ?_
  obtain ⟨r1, z1, hc1, h⟩ := obn_e h
  refine q_goi (va_runU (As := [.int x1]) (rest := []) ⟨hx, hb, hml, hown, hts⟩ (c_x_Run_wordAddress_29 l dC dI cI cZ ad z0 x1 _ hc1 _) (va_cwU 1 hts (q_goodL _ (q_l5 k_549 k_550 k_552 k_553 k_58) k_554) rfl rfl rfl rfl (by decide +kernel) ⟨Nat.le_of_ble_eq_true rfl, Nat.le_of_ble_eq_true rfl⟩) (q_preV qok hKK hP hD (va_recv (ci := 5) (q0 := 29) hK hP rfl rfl)) rfl rfl hl.1 rfl (lv_room (Nat.le_of_ble_eq_true rfl)) d_AddressStream_sendLoad_2 ⟨Nat.le_refl _, Nat.le_refl _⟩) hD hS hA (fun H locs hP hD hS => ?_)
  refine lv_istore_n (lv' := [(2, .int r1), (0, .ref (ad 29)), (1, .int x1)]) hx hb d_AddressStream_sendLoad_5 rfl hl (by decide) rfl (fun ls hl => ?_)
  refine lv_aload_n hx hb d_AddressStream_sendLoad_6 rfl (lv_at hl 1 rfl) ?_
  refine xg_29_link hx hb hts hin_AddressStream hown hK hP (hts _ k_257) (fun x9 h9 => u_same (hts _ k_258) x9 h9) d_AddressStream_sendLoad_7 ?_
  refine xg_13_stores hx hb hts hin_Link hown hK hP (hts _ k_223) (fun _ h9 => h9) d_AddressStream_sendLoad_10 ?_
  refine lv_iload_n hx hb d_AddressStream_sendLoad_13 rfl (lv_at hl 0 rfl) ?_
  obtain ⟨r2, z2, hc2, h⟩ := obn_e h
  refine q_goi (va_runV (As := [.int r1]) (rest := []) ⟨hx, hb, hml, hown, hts⟩ (c_x_StoreList_holds_25 l dC dI cI cZ ad z1 r1 _ hc2 _) (cwV 1 hts (q_goodL _ (q_l4 k_555 k_556 k_557 k_57) k_558) rfl rfl rfl (by decide +kernel) ⟨Nat.le_of_ble_eq_true rfl, Nat.le_of_ble_eq_true rfl⟩) (q_preV qok hKK hP hD (va_recv (ci := 4) (q0 := 25) hK hP rfl rfl)) rfl rfl hl.1 rfl (lv_room (Nat.le_of_ble_eq_true rfl)) d_AddressStream_sendLoad_14 ⟨Nat.le_refl _, Nat.le_refl _⟩) hD hS hA (fun H locs hP hD hS => ?_)
  refine lv_if_ne (tgt := 34) hx hb d_AddressStream_sendLoad_17 (by decide) (fun hc => ?_) (fun hc => ?_)
  · replace h := if_f hc h
    refine lv_iconst (v := 0) hx hb d_AddressStream_sendLoad_34 (by decide) ?_
    exact q_zret hx hb hr hlocks h hP hD hS d_AddressStream_sendLoad_35
  · replace h := if_t hc h
    refine lv_aload_n hx hb d_AddressStream_sendLoad_20 rfl (lv_at hl 1 rfl) ?_
    refine xg_29_link hx hb hts hin_AddressStream hown hK hP (hts _ k_257) (fun x9 h9 => u_same (hts _ k_258) x9 h9) d_AddressStream_sendLoad_21 ?_
    refine xg_13_loads hx hb hts hin_Link hown hK hP (hts _ k_204) (fun _ h9 => h9) d_AddressStream_sendLoad_24 ?_
    refine lv_iconst (v := 1) hx hb d_AddressStream_sendLoad_27 (by decide) ?_
    obtain ⟨r3, z3, hc3, h⟩ := obn_e h
    refine q_goi (va_runV (As := [.int 1]) (rest := []) ⟨hx, hb, hml, hown, hts⟩ (c_x_Fifo_hasRoomFor_15 l dC dI cI cZ ad z2 1 _ hc3 _) (cwV 1 hts (q_goodL _ (q_l4 k_595 k_596 k_597 k_56) k_598) rfl rfl rfl (by decide +kernel) ⟨Nat.le_of_ble_eq_true rfl, Nat.le_of_ble_eq_true rfl⟩) (q_preV qok hKK hP hD (va_recv (ci := 3) (q0 := 15) hK hP rfl rfl)) rfl rfl hl.1 rfl (lv_room (Nat.le_of_ble_eq_true rfl)) d_AddressStream_sendLoad_28 ⟨Nat.le_refl _, Nat.le_refl _⟩) hD hS hA (fun H locs hP hD hS => ?_)
    refine lv_if_ne (tgt := 36) hx hb d_AddressStream_sendLoad_31 (by decide) (fun hc => ?_) (fun hc => ?_)
    · replace h := if_f hc h
      refine lv_aload_n hx hb d_AddressStream_sendLoad_36 rfl (lv_at hl 1 rfl) ?_
      refine xg_29_link hx hb hts hin_AddressStream hown hK hP (hts _ k_257) (fun x9 h9 => u_same (hts _ k_258) x9 h9) d_AddressStream_sendLoad_37 ?_
      refine xg_13_loads hx hb hts hin_Link hown hK hP (hts _ k_204) (fun _ h9 => h9) d_AddressStream_sendLoad_40 ?_
      refine lv_aload_n hx hb d_AddressStream_sendLoad_43 rfl (lv_at hl 1 rfl) ?_
      refine xg_29_link hx hb hts hin_AddressStream hown hK hP (hts _ k_257) (fun x9 h9 => u_same (hts _ k_258) x9 h9) d_AddressStream_sendLoad_44 ?_
      refine xg_13_memory hx hb hts hin_Link hown hK hP (hts _ k_200) (fun _ h9 => h9) d_AddressStream_sendLoad_47 ?_
      refine lv_iload_n hx hb d_AddressStream_sendLoad_50 rfl (lv_at hl 0 rfl) ?_
      obtain ⟨hi, h⟩ := gin_e h
      refine xl_11 hx hb hK hP hi d_AddressStream_sendLoad_51 ?_
      obtain ⟨r4, z4, hc4, h⟩ := obn_e h
      refine q_gov (va_runV (As := [.int (z3.2 11 r1.toNatClampNeg)]) (rest := []) ⟨hx, hb, hml, hown, hts⟩ (c_x_Fifo_put_15 l dC dI cI cZ ad z3 (z3.2 11 r1.toNatClampNeg) _ hc4 _) (cwV 1 hts (q_goodL _ (q_l4 k_642 k_613 k_614 k_56) k_615) rfl rfl rfl (by decide +kernel) ⟨Nat.le_of_ble_eq_true rfl, Nat.le_of_ble_eq_true rfl⟩) (q_preV qok hKK hP hD (va_recv (ci := 3) (q0 := 15) hK hP rfl rfl)) rfl rfl hl.1 rfl (lv_room (Nat.le_of_ble_eq_true rfl)) d_AddressStream_sendLoad_52 ⟨Nat.le_refl _, Nat.le_refl _⟩) hD hS hA (fun H locs hP hD hS => ?_)
      refine lv_aload_n hx hb d_AddressStream_sendLoad_55 rfl (lv_at hl 1 rfl) ?_
      refine lv_iload_n hx hb d_AddressStream_sendLoad_56 rfl (lv_at hl 2 rfl) ?_
      refine lv_iconst (v := 1) hx hb d_AddressStream_sendLoad_57 (by decide) ?_
      refine lv_iadd hx hb d_AddressStream_sendLoad_58 ?_
      obtain ⟨r5, z5, hc5, h⟩ := obn_e h
      refine q_goi (va_runU (As := [.int (x1 + 1)]) (rest := []) ⟨hx, hb, hml, hown, hts⟩ (c_x_Stream_leaveFor_29 l dC dI cI cZ ad z4 (x1 + 1) _ hc5 _) (va_cwU 1 hts (q_goodL _ (q_l5 k_563 k_564 k_566 k_567 k_59) k_568) rfl rfl rfl rfl (by decide +kernel) ⟨Nat.le_of_ble_eq_true rfl, Nat.le_of_ble_eq_true rfl⟩) (q_preV qok hKK hP hD (va_recv (ci := 5) (q0 := 29) hK hP rfl rfl)) rfl rfl hl.1 rfl (lv_room (Nat.le_of_ble_eq_true rfl)) d_AddressStream_sendLoad_59 ⟨Nat.le_refl _, Nat.le_refl _⟩) hD hS hA (fun H locs hP hD hS => ?_)
      exact q_zret hx hb hr hlocks h hP hD hS d_AddressStream_sendLoad_62
    · replace h := if_t hc h
      refine lv_iconst (v := 0) hx hb d_AddressStream_sendLoad_34 (by decide) ?_
      exact q_zret hx hb hr hlocks h hP hD hS d_AddressStream_sendLoad_35
def x_AddressStream_serve_29_56 (z0 : ST) (y1 y2 y3 : Int32) : OR := gib y3 (bnd (stI z0 17 y3) (fun z1 => gib y2 (some (y2, z1))))
def x_AddressStream_serve_29_55 (z0 : ST) (y1 y2 : Int32) : OR := x_AddressStream_serve_29_56 z0 y1 y2 0
def x_AddressStream_serve_29 (z0 : ST) (x1 : Int32) : OR := gin x1 24 (if (z0.2 0 x1.toNatClampNeg) = 4 then (obn (x_AddressStream_sendLoad_29 z0 x1) (fun r10 z10 => gib r10 (some (r10, z10)))) else (obn (x_AddressStream_isAtOutcome_29 z0) (fun r2 z2 => if r2 = 0 then (gin x1 24 (obn (x_Fifo_hasRoomFor_19 z2 (z2.2 7 x1.toNatClampNeg)) (fun r3 z3 => if r3 = 0 then (gib 0 (some (0, z3))) else (gin x1 24 (obn (x_AddressStream_hand_29 z3 (z3.2 5 x1.toNatClampNeg)) (fun r4 z4 => gin x1 24 (obn (x_AddressStream_hand_29 z4 (z4.2 6 x1.toNatClampNeg)) (fun r5 z5 => obn (x_Program_isBranch_1 z5 x1) (fun r6 z6 => if r6 = 0 then (obn (x_Stream_leaveFor_29 z6 (x1 + 1)) (fun r7 z7 => gib r7 (some (r7, z7)))) else (gib 1 (bnd (stI z6 17 1) (fun z8 => gib 1 (some (1, z8)))))))))))))) else (obn (x_Stream_followOutcome_29_18 z2 x1) (fun r9 z9 => if (z9.1 17) = 0 then (x_AddressStream_serve_29_55 z9 x1 r9) else (if r9 = 0 then (x_AddressStream_serve_29_56 z9 x1 r9 1) else (x_AddressStream_serve_29_55 z9 x1 r9)))))))
set_option maxRecDepth 100000 in
set_option maxHeartbeats 4000000 in
theorem c_x_AddressStream_serve_29 (l : Launch) (dC : Nat → ClassId) (dI : Nat → Nat → Nat) (cI cZ : ClassId) (ad : Nat → Nat) (z0 : ST) (x1 : Int32) (R : Int32 × ST) (h : x_AddressStream_serve_29 z0 x1 = some R) : qMi l y_AddressStream_serve w_AddressStream_serve 3 65 (KX dC dI cI cZ) (dC, dI) q_cl (wX cI cZ ad) [.ref (ad 29), .int x1] z0 R := by
  intro sz
  refine Met.ofW (cc := b_AddressStream_serve) (maxL := 3) (ret := (some .boolean)) (by decide) rfl ?_
  intro p e s m args below meth c s₁ B hml hv
  obtain ⟨rfl, hsz, hP, hKK, hD0⟩ := hv
  have hx := B.exec
  have hb := B.bytes
  have hr := B.returns
  have hts : ∀ w ∈ q_big, w.before _ s = true := fun w h => atoms_spec (ws := w_AddressStream_serve) B.pre w (List.mem_cons_of_mem _ h)
  have hown : s.vm.findClass "SlippedStreams$AddressStream" = some m.cls := findClass_of_methodNamed B.named
  have hlocks := B.notSynchronized
  subst hsz
  have hD := hD0.self (sz := s.heap.size)
  generalize hAe : va_A (wX cI cZ ad z0) s.heap.size = A at hD ⊢
  have hA : ∀ q : Nat, s.heap.size ≤ q → A q := fun q h => by rw [← hAe]; exact Or.inr h
  have hS : va_S A s.heap s.heap [] := va_S.rf
  have hK := hKK.1
  have hl := lv_entry ([.ref (ad 29), .int x1]) (n := 3) (Nat.le_of_ble_eq_true rfl)
  rw [lg_entry_eq]
  generalize (lg_sl ([.ref (ad 29), .int x1]) ++ List.replicate (3 - (lg_sl ([.ref (ad 29), .int x1])).length) Slot.unset).toArray = ls at hl ⊢
  have hl : lv_has ls 3 [(0, .ref (ad 29)), (1, .int x1)] := hl
  have jp_56 : ∀ (z0 : ST) (y1 y2 y3 : Int32) (H : Heap) (locs : List Loc) (ls : Array Slot), x_AddressStream_serve_29_56 z0 y1 y2 y3 = some R → va_P (dC, dI) q_cl (wX cI cZ ad z0) H → va_D A (wX cI cZ ad z0) → va_S A s.heap H locs → lv_has ls 3 [(0, .ref (ad 29)), (1, .int y1), (2, .int y2)] → qWi p l e w_AddressStream_serve 3 65 s m [.ref (ad 29), .int x1] below meth c (dC, dI) q_cl (wX cI cZ ad) A R H locs (F0 m 56 ls [.int y3, .ref (ad 29)]) := by
    intro z0 y1 y2 y3 H locs ls h hP hD hS hl
    unfold x_AddressStream_serve_29_56 at h
    obtain ⟨hv, h⟩ := gib_e h
    obtain ⟨z1, e1, h⟩ := bnd_e h
    refine xp_29_handed hx hb hts hin_AddressStream hown hK hP hD hS (hts _ k_253) (fun _ h9 => h9) hv d_AddressStream_serve_56 e1 (fun H locs hP hD hS => ?_)
    refine lv_iload_n hx hb d_AddressStream_serve_59 rfl (lv_at hl 2 rfl) ?_
    exact q_zret hx hb hr hlocks h hP hD hS d_AddressStream_serve_60
  have jp_55 : ∀ (z0 : ST) (y1 y2 : Int32) (H : Heap) (locs : List Loc) (ls : Array Slot), x_AddressStream_serve_29_55 z0 y1 y2 = some R → va_P (dC, dI) q_cl (wX cI cZ ad z0) H → va_D A (wX cI cZ ad z0) → va_S A s.heap H locs → lv_has ls 3 [(0, .ref (ad 29)), (1, .int y1), (2, .int y2)] → qWi p l e w_AddressStream_serve 3 65 s m [.ref (ad 29), .int x1] below meth c (dC, dI) q_cl (wX cI cZ ad) A R H locs (F0 m 55 ls [.ref (ad 29)]) := by
    intro z0 y1 y2 H locs ls h hP hD hS hl
    unfold x_AddressStream_serve_29_55 at h
    refine lv_iconst (v := 0) hx hb d_AddressStream_serve_55 (by decide) ?_
    exact jp_56 z0 y1 y2 0 _ _ _ h hP hD hS (lv_sub hl [0, 1, 2] rfl)
  unfold x_AddressStream_serve_29 at h
  refine lv_aload_n hx hb d_AddressStream_serve_0 rfl (lv_at hl 0 rfl) ?_
  refine xg_29_program hx hb hts hin_AddressStream hown hK hP (hts _ k_266) (fun x9 h9 => u_same (hts _ k_267) x9 h9) d_AddressStream_serve_1 ?_
  refine xg_1_kinds hx hb hts hin_Program hown hK hP (hts _ k_86) (fun _ h9 => h9) d_AddressStream_serve_4 ?_
  refine lv_iload_n hx hb d_AddressStream_serve_7 rfl (lv_at hl 1 rfl) ?_
  obtain ⟨hi, h⟩ := gin_e h
  refine xl_0 hx hb hK hP hi d_AddressStream_serve_8 ?_
  refine lv_iconst (v := 4) hx hb d_AddressStream_serve_9 (by decide) ?_
  refine lv_icmp_ne (tgt := 19) hx hb d_AddressStream_serve_10 (by decide) (fun hc => ?_) (fun hc => ?_)
  · replace h := if_f hc h
    refine lv_aload_n hx hb d_AddressStream_serve_19 rfl (lv_at hl 0 rfl) ?_
    obtain ⟨r2, z2, hc2, h⟩ := obn_e h
    refine q_goi (va_runV (As := []) (rest := []) ⟨hx, hb, hml, hown, hts⟩ (c_x_AddressStream_isAtOutcome_29 l dC dI cI cZ ad z0 _ hc2 _) (cwV 0 hts (q_goodL _ (q_l4 k_643 k_644 k_645 k_60) k_646) rfl rfl rfl (by decide +kernel) ⟨Nat.le_of_ble_eq_true rfl, Nat.le_of_ble_eq_true rfl⟩) (q_preV qok hKK hP hD (va_recv (ci := 5) (q0 := 29) hK hP rfl rfl)) rfl rfl hl.1 rfl (lv_room (Nat.le_of_ble_eq_true rfl)) d_AddressStream_serve_20 ⟨Nat.le_refl _, Nat.le_refl _⟩) hD hS hA (fun H locs hP hD hS => ?_)
    refine lv_if_eq (tgt := 61) hx hb d_AddressStream_serve_23 (by decide) (fun hc => ?_) (fun hc => ?_)
    · replace h := if_t hc h
      refine lv_aload_n hx hb d_AddressStream_serve_61 rfl (lv_at hl 0 rfl) ?_
      refine xg_29_link hx hb hts hin_AddressStream hown hK hP (hts _ k_257) (fun x9 h9 => u_same (hts _ k_258) x9 h9) d_AddressStream_serve_62 ?_
      refine xg_13_passed hx hb hts hin_Link hown hK hP (hts _ k_220) (fun _ h9 => h9) d_AddressStream_serve_65 ?_
      refine lv_aload_n hx hb d_AddressStream_serve_68 rfl (lv_at hl 0 rfl) ?_
      refine xg_29_program hx hb hts hin_AddressStream hown hK hP (hts _ k_266) (fun x9 h9 => u_same (hts _ k_267) x9 h9) d_AddressStream_serve_69 ?_
      refine xg_1_passedCounts hx hb hts hin_Program hown hK hP (hts _ k_108) (fun _ h9 => h9) d_AddressStream_serve_72 ?_
      refine lv_iload_n hx hb d_AddressStream_serve_75 rfl (lv_at hl 1 rfl) ?_
      obtain ⟨hi, h⟩ := gin_e h
      refine xl_7 hx hb hK hP hi d_AddressStream_serve_76 ?_
      obtain ⟨r3, z3, hc3, h⟩ := obn_e h
      refine q_goi (va_runV (As := [.int (z2.2 7 x1.toNatClampNeg)]) (rest := []) ⟨hx, hb, hml, hown, hts⟩ (c_x_Fifo_hasRoomFor_19 l dC dI cI cZ ad z2 (z2.2 7 x1.toNatClampNeg) _ hc3 _) (cwV 1 hts (q_goodL _ (q_l4 k_595 k_596 k_597 k_56) k_598) rfl rfl rfl (by decide +kernel) ⟨Nat.le_of_ble_eq_true rfl, Nat.le_of_ble_eq_true rfl⟩) (q_preV qok hKK hP hD (va_recv (ci := 3) (q0 := 19) hK hP rfl rfl)) rfl rfl hl.1 rfl (lv_room (Nat.le_of_ble_eq_true rfl)) d_AddressStream_serve_77 ⟨Nat.le_refl _, Nat.le_refl _⟩) hD hS hA (fun H locs hP hD hS => ?_)
      refine lv_if_ne (tgt := 85) hx hb d_AddressStream_serve_80 (by decide) (fun hc => ?_) (fun hc => ?_)
      · replace h := if_f hc h
        refine lv_aload_n hx hb d_AddressStream_serve_85 rfl (lv_at hl 0 rfl) ?_
        refine lv_aload_n hx hb d_AddressStream_serve_86 rfl (lv_at hl 0 rfl) ?_
        refine xg_29_program hx hb hts hin_AddressStream hown hK hP (hts _ k_266) (fun x9 h9 => u_same (hts _ k_267) x9 h9) d_AddressStream_serve_87 ?_
        refine xg_1_firstPassed hx hb hts hin_Program hown hK hP (hts _ k_103) (fun _ h9 => h9) d_AddressStream_serve_90 ?_
        refine lv_iload_n hx hb d_AddressStream_serve_93 rfl (lv_at hl 1 rfl) ?_
        obtain ⟨hi, h⟩ := gin_e h
        refine xl_5 hx hb hK hP hi d_AddressStream_serve_94 ?_
        obtain ⟨r4, z4, hc4, h⟩ := obn_e h
        refine q_gov (va_runV (As := [.int (z3.2 5 x1.toNatClampNeg)]) (rest := []) ⟨hx, hb, hml, hown, hts⟩ (c_x_AddressStream_hand_29 l dC dI cI cZ ad z3 (z3.2 5 x1.toNatClampNeg) _ hc4 _) (cwV 1 hts (q_goodL _ (q_l4 k_655 k_657 k_20 k_60) k_658) rfl rfl rfl (by decide +kernel) ⟨Nat.le_of_ble_eq_true rfl, Nat.le_of_ble_eq_true rfl⟩) (q_preV qok hKK hP hD (va_recv (ci := 5) (q0 := 29) hK hP rfl rfl)) rfl rfl hl.1 rfl (lv_room (Nat.le_of_ble_eq_true rfl)) d_AddressStream_serve_95 ⟨Nat.le_refl _, Nat.le_refl _⟩) hD hS hA (fun H locs hP hD hS => ?_)
        refine lv_aload_n hx hb d_AddressStream_serve_98 rfl (lv_at hl 0 rfl) ?_
        refine lv_aload_n hx hb d_AddressStream_serve_99 rfl (lv_at hl 0 rfl) ?_
        refine xg_29_program hx hb hts hin_AddressStream hown hK hP (hts _ k_266) (fun x9 h9 => u_same (hts _ k_267) x9 h9) d_AddressStream_serve_100 ?_
        refine xg_1_secondPassed hx hb hts hin_Program hown hK hP (hts _ k_106) (fun _ h9 => h9) d_AddressStream_serve_103 ?_
        refine lv_iload_n hx hb d_AddressStream_serve_106 rfl (lv_at hl 1 rfl) ?_
        obtain ⟨hi, h⟩ := gin_e h
        refine xl_6 hx hb hK hP hi d_AddressStream_serve_107 ?_
        obtain ⟨r5, z5, hc5, h⟩ := obn_e h
        refine q_gov (va_runV (As := [.int (z4.2 6 x1.toNatClampNeg)]) (rest := []) ⟨hx, hb, hml, hown, hts⟩ (c_x_AddressStream_hand_29 l dC dI cI cZ ad z4 (z4.2 6 x1.toNatClampNeg) _ hc5 _) (cwV 1 hts (q_goodL _ (q_l4 k_655 k_657 k_20 k_60) k_658) rfl rfl rfl (by decide +kernel) ⟨Nat.le_of_ble_eq_true rfl, Nat.le_of_ble_eq_true rfl⟩) (q_preV qok hKK hP hD (va_recv (ci := 5) (q0 := 29) hK hP rfl rfl)) rfl rfl hl.1 rfl (lv_room (Nat.le_of_ble_eq_true rfl)) d_AddressStream_serve_108 ⟨Nat.le_refl _, Nat.le_refl _⟩) hD hS hA (fun H locs hP hD hS => ?_)
        refine lv_aload_n hx hb d_AddressStream_serve_111 rfl (lv_at hl 0 rfl) ?_
        refine xg_29_program hx hb hts hin_AddressStream hown hK hP (hts _ k_266) (fun x9 h9 => u_same (hts _ k_267) x9 h9) d_AddressStream_serve_112 ?_
        refine lv_iload_n hx hb d_AddressStream_serve_115 rfl (lv_at hl 1 rfl) ?_
        obtain ⟨r6, z6, hc6, h⟩ := obn_e h
        refine q_goi (va_runV (As := [.int x1]) (rest := []) ⟨hx, hb, hml, hown, hts⟩ (c_x_Program_isBranch_1 l dC dI cI cZ ad z5 x1 _ hc6 _) (cwV 1 hts (q_goodL _ (q_l4 k_647 k_418 k_419 k_54) k_420) rfl rfl rfl (by decide +kernel) ⟨Nat.le_of_ble_eq_true rfl, Nat.le_of_ble_eq_true rfl⟩) (q_preV qok hKK hP hD (va_recv (ci := 1) (q0 := 1) hK hP rfl rfl)) rfl rfl hl.1 rfl (lv_room (Nat.le_of_ble_eq_true rfl)) d_AddressStream_serve_116 ⟨Nat.le_refl _, Nat.le_refl _⟩) hD hS hA (fun H locs hP hD hS => ?_)
        refine lv_if_eq (tgt := 129) hx hb d_AddressStream_serve_119 (by decide) (fun hc => ?_) (fun hc => ?_)
        · replace h := if_t hc h
          refine lv_aload_n hx hb d_AddressStream_serve_129 rfl (lv_at hl 0 rfl) ?_
          refine lv_iload_n hx hb d_AddressStream_serve_130 rfl (lv_at hl 1 rfl) ?_
          refine lv_iconst (v := 1) hx hb d_AddressStream_serve_131 (by decide) ?_
          refine lv_iadd hx hb d_AddressStream_serve_132 ?_
          obtain ⟨r7, z7, hc7, h⟩ := obn_e h
          refine q_goi (va_runU (As := [.int (x1 + 1)]) (rest := []) ⟨hx, hb, hml, hown, hts⟩ (c_x_Stream_leaveFor_29 l dC dI cI cZ ad z6 (x1 + 1) _ hc7 _) (va_cwU 1 hts (q_goodL _ (q_l5 k_563 k_564 k_566 k_567 k_59) k_568) rfl rfl rfl rfl (by decide +kernel) ⟨Nat.le_of_ble_eq_true rfl, Nat.le_of_ble_eq_true rfl⟩) (q_preV qok hKK hP hD (va_recv (ci := 5) (q0 := 29) hK hP rfl rfl)) rfl rfl hl.1 rfl (lv_room (Nat.le_of_ble_eq_true rfl)) d_AddressStream_serve_133 ⟨Nat.le_refl _, Nat.le_refl _⟩) hD hS hA (fun H locs hP hD hS => ?_)
          exact q_zret hx hb hr hlocks h hP hD hS d_AddressStream_serve_136
        · replace h := if_f hc h
          refine lv_aload_n hx hb d_AddressStream_serve_122 rfl (lv_at hl 0 rfl) ?_
          refine lv_iconst (v := 1) hx hb d_AddressStream_serve_123 (by decide) ?_
          obtain ⟨hv, h⟩ := gib_e h
          obtain ⟨z8, e8, h⟩ := bnd_e h
          refine xp_29_handed hx hb hts hin_AddressStream hown hK hP hD hS (hts _ k_253) (fun _ h9 => h9) hv d_AddressStream_serve_124 e8 (fun H locs hP hD hS => ?_)
          refine lv_iconst (v := 1) hx hb d_AddressStream_serve_127 (by decide) ?_
          exact q_zret hx hb hr hlocks h hP hD hS d_AddressStream_serve_128
      · replace h := if_t hc h
        refine lv_iconst (v := 0) hx hb d_AddressStream_serve_83 (by decide) ?_
        exact q_zret hx hb hr hlocks h hP hD hS d_AddressStream_serve_84
    · replace h := if_f hc h
      refine lv_aload_n hx hb d_AddressStream_serve_26 rfl (lv_at hl 0 rfl) ?_
      refine lv_iload_n hx hb d_AddressStream_serve_27 rfl (lv_at hl 1 rfl) ?_
      refine lv_aload_n hx hb d_AddressStream_serve_28 rfl (lv_at hl 0 rfl) ?_
      refine xg_29_link hx hb hts hin_AddressStream hown hK hP (hts _ k_257) (fun x9 h9 => u_same (hts _ k_258) x9 h9) d_AddressStream_serve_29 ?_
      refine xg_13_addressOutcomes hx hb hts hin_Link hown hK hP (hts _ k_216) (fun _ h9 => h9) d_AddressStream_serve_32 ?_
      obtain ⟨r9, z9, hc9, h⟩ := obn_e h
      refine q_goi (va_runU (As := [.int x1, .ref (ad 18)]) (rest := []) ⟨hx, hb, hml, hown, hts⟩ (c_x_Stream_followOutcome_29_18 l dC dI cI cZ ad z2 x1 _ hc9 _) (va_cwU 2 hts (q_goodL _ (q_l5 k_648 k_649 k_651 k_652 k_59) k_653) rfl rfl rfl rfl (by decide +kernel) ⟨Nat.le_of_ble_eq_true rfl, Nat.le_of_ble_eq_true rfl⟩) (q_preV qok hKK hP hD (va_recv (ci := 5) (q0 := 29) hK hP rfl rfl)) rfl rfl hl.1 rfl (lv_room (Nat.le_of_ble_eq_true rfl)) d_AddressStream_serve_35 ⟨Nat.le_refl _, Nat.le_refl _⟩) hD hS hA (fun H locs hP hD hS => ?_)
      refine lv_istore_n (lv' := [(2, .int r9), (0, .ref (ad 29)), (1, .int x1)]) hx hb d_AddressStream_serve_38 rfl hl (by decide) rfl (fun ls hl => ?_)
      refine lv_aload_n hx hb d_AddressStream_serve_39 rfl (lv_at hl 1 rfl) ?_
      refine lv_aload_n hx hb d_AddressStream_serve_40 rfl (lv_at hl 1 rfl) ?_
      refine xg_29_handed hx hb hts hin_AddressStream hown hK hP (hts _ k_253) (fun _ h9 => h9) d_AddressStream_serve_41 ?_
      refine lv_if_eq (tgt := 55) hx hb d_AddressStream_serve_44 (by decide) (fun hc => ?_) (fun hc => ?_)
      · replace h := if_t hc h
        exact jp_55 z9 x1 r9 _ _ _ h hP hD hS (lv_sub hl [1, 2, 0] rfl)
      · replace h := if_f hc h
        refine lv_iload_n hx hb d_AddressStream_serve_47 rfl (lv_at hl 0 rfl) ?_
        refine lv_if_ne (tgt := 55) hx hb d_AddressStream_serve_48 (by decide) (fun hc => ?_) (fun hc => ?_)
        · replace h := if_f hc h
          exact jp_55 z9 x1 r9 _ _ _ h hP hD hS (lv_sub hl [1, 2, 0] rfl)
        · replace h := if_t hc h
          refine lv_iconst (v := 1) hx hb d_AddressStream_serve_51 (by decide) ?_
          refine lv_goto (tgt := 56) hx hb d_AddressStream_serve_52 (by decide) ?_
          exact jp_56 z9 x1 r9 1 _ _ _ h hP hD hS (lv_sub hl [1, 2, 0] rfl)
  · replace h := if_t hc h
    refine lv_aload_n hx hb d_AddressStream_serve_13 rfl (lv_at hl 0 rfl) ?_
    refine lv_iload_n hx hb d_AddressStream_serve_14 rfl (lv_at hl 1 rfl) ?_
    obtain ⟨r10, z10, hc10, h⟩ := obn_e h
    refine q_goi (va_runV (As := [.int x1]) (rest := []) ⟨hx, hb, hml, hown, hts⟩ (c_x_AddressStream_sendLoad_29 l dC dI cI cZ ad z0 x1 _ hc10 _) (cwV 1 hts (q_goodL _ (q_l4 k_638 k_640 k_19 k_60) k_641) rfl rfl rfl (by decide +kernel) ⟨Nat.le_of_ble_eq_true rfl, Nat.le_of_ble_eq_true rfl⟩) (q_preV qok hKK hP hD (va_recv (ci := 5) (q0 := 29) hK hP rfl rfl)) rfl rfl hl.1 rfl (lv_room (Nat.le_of_ble_eq_true rfl)) d_AddressStream_serve_15 ⟨Nat.le_refl _, Nat.le_refl _⟩) hD hS hA (fun H locs hP hD hS => ?_)
    exact q_zret hx hb hr hlocks h hP hD hS d_AddressStream_serve_18
