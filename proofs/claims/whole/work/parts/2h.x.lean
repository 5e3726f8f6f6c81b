def x_Run_behind_31 (z0 : ST) (x1 x2 : Int32) : OR := if x2 = 0 then (some (x1 + 1, z0)) else (gin x1 24 (some (z0.2 3 x1.toNatClampNeg, z0)))
set_option maxRecDepth 100000 in
set_option maxHeartbeats 4000000 in
theorem c_x_Run_behind_31 (l : Launch) (dC : Nat → ClassId) (dI : Nat → Nat → Nat) (cI cZ : ClassId) (ad : Nat → Nat) (z0 : ST) (x1 x2 : Int32) (R : Int32 × ST) (h : x_Run_behind_31 z0 x1 x2 = some R) : qMi l y_Run_behind w_Run_behind 0 0 (KX dC dI cI cZ) (dC, dI) q_cl (wX cI cZ ad) [.ref (ad 31), .int x1, .int x2] z0 R := by
  intro sz
  refine Met.ofW (cc := b_Run_behind) (maxL := 3) (ret := (some .int)) (by decide) rfl ?_
  intro p e s m args below meth c s₁ B hml hv
  obtain ⟨rfl, hsz, hP, hKK, hD0⟩ := hv
  have hx := B.exec
  have hb := B.bytes
  have hr := B.returns
  have hts : ∀ w ∈ q_big, w.before _ s = true := fun w h => atoms_spec (ws := w_Run_behind) B.pre w (List.mem_cons_of_mem _ h)
  have hown : s.vm.findClass "SlippedStreams$Run" = some m.cls := findClass_of_methodNamed B.named
  have hlocks := B.notSynchronized
  subst hsz
  have hD := hD0.self (sz := s.heap.size)
  generalize hAe : va_A (wX cI cZ ad z0) s.heap.size = A at hD ⊢
  have hA : ∀ q : Nat, s.heap.size ≤ q → A q := fun q h => by rw [← hAe]; exact Or.inr h
  have hS : va_S A s.heap s.heap [] := va_S.rf
  have hK := hKK.1
  have hl := lv_entry ([.ref (ad 31), .int x1, .int x2]) (n := 3) (Nat.le_of_ble_eq_true rfl)
  rw [lg_entry_eq]
  generalize (lg_sl ([.ref (ad 31), .int x1, .int x2]) ++ List.replicate (3 - (lg_sl ([.ref (ad 31), .int x1, .int x2])).length) Slot.unset).toArray = ls at hl ⊢
  have hl : lv_has ls 3 [(0, .ref (ad 31)), (1, .int x1), (2, .int x2)] := hl
  unfold x_Run_behind_31 at h
  refine lv_iload_n hx hb d_Run_behind_0 rfl (lv_at hl 2 rfl) ?_
  refine lv_if_eq (tgt := 16) hx hb d_Run_behind_1 (by decide) (fun hc => ?_) (fun hc => ?_)
  · replace h := if_t hc h
    refine lv_iload_n hx hb d_Run_behind_16 rfl (lv_at hl 1 rfl) ?_
    refine lv_iconst (v := 1) hx hb d_Run_behind_17 (by decide) ?_
    refine lv_iadd hx hb d_Run_behind_18 ?_
    exact q_iret hx hb hr hlocks h hP hD hS d_Run_behind_19
  · replace h := if_f hc h
    refine lv_aload_n hx hb d_Run_behind_4 rfl (lv_at hl 0 rfl) ?_
    refine xg_31_program hx hb hts hin_ValueStream hown hK hP (hts _ k_265) (fun _ h9 => h9) d_Run_behind_5 ?_
    refine xg_1_cs hx hb hts hin_Program hown hK hP (hts _ k_96) (fun _ h9 => h9) d_Run_behind_8 ?_
    refine lv_iload_n hx hb d_Run_behind_11 rfl (lv_at hl 1 rfl) ?_
    obtain ⟨hi, h⟩ := gin_e h
    refine xl_3 hx hb hK hP hi d_Run_behind_12 ?_
    refine lv_goto (tgt := 19) hx hb d_Run_behind_13 (by decide) ?_
    exact q_iret hx hb hr hlocks h hP hD hS d_Run_behind_19
def x_Fifo_take_17_35 (z0 : ST) (y1 y2 : Int32) : OR := bnd (stI z0 7 y2) (fun z1 => bnd (stI z1 8 ((z1.1 8) - 1)) (fun z2 => some (y1, z2)))
def x_Fifo_take_17 (z0 : ST) : OR := gin (z0.1 7) 4 (if 4 ≤ ((z0.1 7) + 1) then (x_Fifo_take_17_35 z0 (z0.2 14 (z0.1 7).toNatClampNeg) 0) else (x_Fifo_take_17_35 z0 (z0.2 14 (z0.1 7).toNatClampNeg) ((z0.1 7) + 1)))
set_option maxRecDepth 100000 in
set_option maxHeartbeats 4000000 in
theorem c_x_Fifo_take_17 (l : Launch) (dC : Nat → ClassId) (dI : Nat → Nat → Nat) (cI cZ : ClassId) (ad : Nat → Nat) (z0 : ST) (R : Int32 × ST) (h : x_Fifo_take_17 z0 = some R) : qMi l y_Fifo_take w_Fifo_take 0 0 (KX dC dI cI cZ) (dC, dI) q_cl (wX cI cZ ad) [.ref (ad 17)] z0 R := by
  intro sz
  refine Met.ofW (cc := b_Fifo_take) (maxL := 2) (ret := (some .int)) (by decide) rfl ?_
  intro p e s m args below meth c s₁ B hml hv
  obtain ⟨rfl, hsz, hP, hKK, hD0⟩ := hv
  have hx := B.exec
  have hb := B.bytes
  have hr := B.returns
  have hts : ∀ w ∈ q_big, w.before _ s = true := fun w h => atoms_spec (ws := w_Fifo_take) B.pre w (List.mem_cons_of_mem _ h)
  have hown : s.vm.findClass "SlippedStreams$Fifo" = some m.cls := findClass_of_methodNamed B.named
  have hlocks := B.notSynchronized
  subst hsz
  have hD := hD0.self (sz := s.heap.size)
  generalize hAe : va_A (wX cI cZ ad z0) s.heap.size = A at hD ⊢
  have hA : ∀ q : Nat, s.heap.size ≤ q → A q := fun q h => by rw [← hAe]; exact Or.inr h
  have hS : va_S A s.heap s.heap [] := va_S.rf
  have hK := hKK.1
  have hl := lv_entry ([.ref (ad 17)]) (n := 2) (Nat.le_of_ble_eq_true rfl)
  rw [lg_entry_eq]
  generalize (lg_sl ([.ref (ad 17)]) ++ List.replicate (2 - (lg_sl ([.ref (ad 17)])).length) Slot.unset).toArray = ls at hl ⊢
  have hl : lv_has ls 2 [(0, .ref (ad 17))] := hl
  have jp_35 : ∀ (z0 : ST) (y1 y2 : Int32) (H : Heap) (locs : List Loc) (ls : Array Slot), x_Fifo_take_17_35 z0 y1 y2 = some R → va_P (dC, dI) q_cl (wX cI cZ ad z0) H → va_D A (wX cI cZ ad z0) → va_S A s.heap H locs → lv_has ls 2 [(0, .ref (ad 17)), (1, .int y1)] → qWi p l e w_Fifo_take 0 0 s m [.ref (ad 17)] below meth c (dC, dI) q_cl (wX cI cZ ad) A R H locs (F0 m 35 ls [.int y2, .ref (ad 17)]) := by
    intro z0 y1 y2 H locs ls h hP hD hS hl
    unfold x_Fifo_take_17_35 at h
    obtain ⟨z1, e1, h⟩ := bnd_e h
    refine xp_17_first hx hb hts hin_Fifo hown hK hP hD hS (hts _ k_160) (fun _ h9 => h9) d_Fifo_take_35 e1 (fun H locs hP hD hS => ?_)
    refine lv_aload_n hx hb d_Fifo_take_38 rfl (lv_at hl 0 rfl) ?_
    refine lv_dup hx hb d_Fifo_take_39 rfl ?_
    refine xg_17_size hx hb hts hin_Fifo hown hK hP (hts _ k_161) (fun _ h9 => h9) d_Fifo_take_40 ?_
    refine lv_iconst (v := 1) hx hb d_Fifo_take_43 (by decide) ?_
    refine lv_isub hx hb d_Fifo_take_44 ?_
    obtain ⟨z2, e2, h⟩ := bnd_e h
    refine xp_17_size hx hb hts hin_Fifo hown hK hP hD hS (hts _ k_161) (fun _ h9 => h9) d_Fifo_take_45 e2 (fun H locs hP hD hS => ?_)
    refine lv_iload_n hx hb d_Fifo_take_48 rfl (lv_at hl 1 rfl) ?_
    exact q_iret hx hb hr hlocks h hP hD hS d_Fifo_take_49
  unfold x_Fifo_take_17 at h
  refine lv_aload_n hx hb d_Fifo_take_0 rfl (lv_at hl 0 rfl) ?_
  refine xg_17_things hx hb hts hin_Fifo hown hK hP (hts _ k_159) (fun _ h9 => h9) d_Fifo_take_1 ?_
  refine lv_aload_n hx hb d_Fifo_take_4 rfl (lv_at hl 0 rfl) ?_
  refine xg_17_first hx hb hts hin_Fifo hown hK hP (hts _ k_160) (fun _ h9 => h9) d_Fifo_take_5 ?_
  obtain ⟨hi, h⟩ := gin_e h
  refine xl_14 hx hb hK hP hi d_Fifo_take_8 ?_
  refine lv_istore_n (lv' := [(1, .int (z0.2 14 (z0.1 7).toNatClampNeg)), (0, .ref (ad 17))]) hx hb d_Fifo_take_9 rfl hl (by decide) rfl (fun ls hl => ?_)
  refine lv_aload_n hx hb d_Fifo_take_10 rfl (lv_at hl 1 rfl) ?_
  refine lv_aload_n hx hb d_Fifo_take_11 rfl (lv_at hl 1 rfl) ?_
  refine xg_17_first hx hb hts hin_Fifo hown hK hP (hts _ k_160) (fun _ h9 => h9) d_Fifo_take_12 ?_
  refine lv_iconst (v := 1) hx hb d_Fifo_take_15 (by decide) ?_
  refine lv_iadd hx hb d_Fifo_take_16 ?_
  refine lv_aload_n hx hb d_Fifo_take_17 rfl (lv_at hl 1 rfl) ?_
  refine xg_17_things hx hb hts hin_Fifo hown hK hP (hts _ k_159) (fun _ h9 => h9) d_Fifo_take_18 ?_
  refine va_alen (v := 4) hx hb hK hP 22 0 rfl rfl rfl d_Fifo_take_21 ?_
  refine lv_icmp_ge (tgt := 34) hx hb d_Fifo_take_22 (by decide) (fun hc => ?_) (fun hc => ?_)
  · replace h := if_t hc h
    refine lv_iconst (v := 0) hx hb d_Fifo_take_34 (by decide) ?_
    exact jp_35 z0 (z0.2 14 (z0.1 7).toNatClampNeg) 0 _ _ _ h hP hD hS (lv_sub hl [1, 0] rfl)
  · replace h := if_f hc h
    refine lv_aload_n hx hb d_Fifo_take_25 rfl (lv_at hl 1 rfl) ?_
    refine xg_17_first hx hb hts hin_Fifo hown hK hP (hts _ k_160) (fun _ h9 => h9) d_Fifo_take_26 ?_
    refine lv_iconst (v := 1) hx hb d_Fifo_take_29 (by decide) ?_
    refine lv_iadd hx hb d_Fifo_take_30 ?_
    refine lv_goto (tgt := 35) hx hb d_Fifo_take_31 (by decide) ?_
    exact jp_35 z0 (z0.2 14 (z0.1 7).toNatClampNeg) ((z0.1 7) + 1) _ _ _ h hP hD hS (lv_sub hl [1, 0] rfl)
def x_Stream_followOutcome_31_17_24 (z0 : ST) (y1 y2 y3 : Int32) : OR := obn (x_Run_behind_31 z0 y2 y3) (fun r1 z1 => obn (x_Stream_leaveFor_31 z1 r1) (fun r2 z2 => gib r2 (some (r2, z2))))
def x_Stream_followOutcome_31_17 (z0 : ST) (x1 : Int32) : OR := if (z0.1 8) = 0 then (gib 0 (some (0, z0))) else (obn (x_Fifo_take_17 z0) (fun r3 z3 => if r3 = 0 then (x_Stream_followOutcome_31_17_24 z3 x1 x1 0) else (x_Stream_followOutcome_31_17_24 z3 x1 x1 1)))
set_option maxRecDepth 100000 in
set_option maxHeartbeats 4000000 in
theorem c_x_Stream_followOutcome_31_17 (l : Launch) (dC : Nat → ClassId) (dI : Nat → Nat → Nat) (cI cZ : ClassId) (ad : Nat → Nat) (z0 : ST) (x1 : Int32) (R : Int32 × ST) (h : x_Stream_followOutcome_31_17 z0 x1 = some R) : qMi l y_Stream_followOutcome w_Stream_followOutcome 2 41 (KX dC dI cI cZ) (dC, dI) q_cl (wX cI cZ ad) [.ref (ad 31), .int x1, .ref (ad 17)] z0 R := by
  intro sz
  refine Met.ofW (cc := b_Stream_followOutcome) (maxL := 3) (ret := (some .boolean)) (by decide) rfl ?_
  intro p e s m args below meth c s₁ B hml hv
  obtain ⟨rfl, hsz, hP, hKK, hD0⟩ := hv
  have hx := B.exec
  have hb := B.bytes
  have hr := B.returns
  have hts : ∀ w ∈ q_big, w.before _ s = true := fun w h => atoms_spec (ws := w_Stream_followOutcome) B.pre w (List.mem_cons_of_mem _ h)
  have hown : s.vm.findClass "SlippedStreams$Stream" = some m.cls := findClass_of_methodNamed B.named
  have hlocks := B.notSynchronized
  subst hsz
  have hD := hD0.self (sz := s.heap.size)
  generalize hAe : va_A (wX cI cZ ad z0) s.heap.size = A at hD ⊢
  have hA : ∀ q : Nat, s.heap.size ≤ q → A q := fun q h => by rw [← hAe]; exact Or.inr h
  have hS : va_S A s.heap s.heap [] := va_S.rf
  have hK := hKK.1
  have hl := lv_entry ([.ref (ad 31), .int x1, .ref (ad 17)]) (n := 3) (Nat.le_of_ble_eq_true rfl)
  rw [lg_entry_eq]
  generalize (lg_sl ([.ref (ad 31), .int x1, .ref (ad 17)]) ++ List.replicate (3 - (lg_sl ([.ref (ad 31), .int x1, .ref (ad 17)])).length) Slot.unset).toArray = ls at hl ⊢
  have hl : lv_has ls 3 [(0, .ref (ad 31)), (1, .int x1), (2, .ref (ad 17))] := hl
  have jp_24 : ∀ (z0 : ST) (y1 y2 y3 : Int32) (H : Heap) (locs : List Loc) (ls : Array Slot), x_Stream_followOutcome_31_17_24 z0 y1 y2 y3 = some R → va_P (dC, dI) q_cl (wX cI cZ ad z0) H → va_D A (wX cI cZ ad z0) → va_S A s.heap H locs → lv_has ls 3 [(0, .ref (ad 31)), (1, .int y1), (2, .ref (ad 17))] → qWi p l e w_Stream_followOutcome 2 41 s m [.ref (ad 31), .int x1, .ref (ad 17)] below meth c (dC, dI) q_cl (wX cI cZ ad) A R H locs (F0 m 24 ls [.int y3, .int y2, .ref (ad 31), .ref (ad 31)]) := by
    intro z0 y1 y2 y3 H locs ls h hP hD hS hl
    unfold x_Stream_followOutcome_31_17_24 at h
    obtain ⟨r1, z1, hc1, h⟩ := obn_e h
    refine q_goi (va_runU (As := [.int y2, .int y3]) (rest := [.ref (ad 31)]) ⟨hx, hb, hml, hown, hts⟩ (c_x_Run_behind_31 l dC dI cI cZ ad z0 y2 y3 _ hc1 _) (va_cwU 2 hts (q_goodL _ (q_l5 k_616 k_617 k_620 k_621 k_58) k_622) rfl rfl rfl rfl (by decide +kernel) ⟨Nat.le_of_ble_eq_true rfl, Nat.le_of_ble_eq_true rfl⟩) (q_preV qok hKK hP hD (va_recv (ci := 6) (q0 := 31) hK hP rfl rfl)) rfl rfl hl.1 rfl (lv_room (Nat.le_of_ble_eq_true rfl)) d_Stream_followOutcome_24 ⟨Nat.le_refl _, Nat.le_refl _⟩) hD hS hA (fun H locs hP hD hS => ?_)
    obtain ⟨r2, z2, hc2, h⟩ := obn_e h
    refine q_goi (va_runU (As := [.int r1]) (rest := []) ⟨hx, hb, hml, hown, hts⟩ (c_x_Stream_leaveFor_31 l dC dI cI cZ ad z1 r1 _ hc2 _) (va_cwU 1 hts (q_goodL _ (q_l5 k_623 k_1085 k_1087 k_567 k_59) k_568) rfl rfl rfl rfl (by decide +kernel) ⟨Nat.le_of_ble_eq_true rfl, Nat.le_of_ble_eq_true rfl⟩) (q_preV qok hKK hP hD (va_recv (ci := 6) (q0 := 31) hK hP rfl rfl)) rfl rfl hl.1 rfl (lv_room (Nat.le_of_ble_eq_true rfl)) d_Stream_followOutcome_27 ⟨Nat.le_refl _, Nat.le_refl _⟩) hD hS hA (fun H locs hP hD hS => ?_)
    exact q_zret hx hb hr hlocks h hP hD hS d_Stream_followOutcome_30
  unfold x_Stream_followOutcome_31_17 at h
  refine lv_aload_n hx hb d_Stream_followOutcome_0 rfl (lv_at hl 2 rfl) ?_
  refine xg_17_size hx hb hts hin_Fifo hown hK hP (hts _ k_163) (fun _ h9 => h9) d_Stream_followOutcome_1 ?_
  refine lv_if_ne (tgt := 9) hx hb d_Stream_followOutcome_4 (by decide) (fun hc => ?_) (fun hc => ?_)
  · replace h := if_f hc h
    refine lv_aload_n hx hb d_Stream_followOutcome_9 rfl (lv_at hl 0 rfl) ?_
    refine lv_aload_n hx hb d_Stream_followOutcome_10 rfl (lv_at hl 0 rfl) ?_
    refine lv_iload_n hx hb d_Stream_followOutcome_11 rfl (lv_at hl 1 rfl) ?_
    refine lv_aload_n hx hb d_Stream_followOutcome_12 rfl (lv_at hl 2 rfl) ?_
    obtain ⟨r3, z3, hc3, h⟩ := obn_e h
    refine q_goi (va_runV (As := []) (rest := [.int x1, .ref (ad 31), .ref (ad 31)]) ⟨hx, hb, hml, hown, hts⟩ (c_x_Fifo_take_17 l dC dI cI cZ ad z0 _ hc3 _) (cwV 0 hts (q_goodL _ (q_l4 k_654 k_591 k_592 k_56) k_593) rfl rfl rfl (by decide +kernel) ⟨Nat.le_of_ble_eq_true rfl, Nat.le_of_ble_eq_true rfl⟩) (q_preV qok hKK hP hD (va_recv (ci := 3) (q0 := 17) hK hP rfl rfl)) rfl rfl hl.1 rfl (lv_room (Nat.le_of_ble_eq_true rfl)) d_Stream_followOutcome_13 ⟨Nat.le_refl _, Nat.le_refl _⟩) hD hS hA (fun H locs hP hD hS => ?_)
    refine lv_if_eq (tgt := 23) hx hb d_Stream_followOutcome_16 (by decide) (fun hc => ?_) (fun hc => ?_)
    · replace h := if_t hc h
      refine lv_iconst (v := 0) hx hb d_Stream_followOutcome_23 (by decide) ?_
      exact jp_24 z3 x1 x1 0 _ _ _ h hP hD hS (lv_sub hl [0, 1, 2] rfl)
    · replace h := if_f hc h
      refine lv_iconst (v := 1) hx hb d_Stream_followOutcome_19 (by decide) ?_
      refine lv_goto (tgt := 24) hx hb d_Stream_followOutcome_20 (by decide) ?_
      exact jp_24 z3 x1 x1 1 _ _ _ h hP hD hS (lv_sub hl [0, 1, 2] rfl)
  · replace h := if_t hc h
    refine lv_iconst (v := 0) hx hb d_Stream_followOutcome_7 (by decide) ?_
    exact q_zret hx hb hr hlocks h hP hD hS d_Stream_followOutcome_8
def x_Fifo_take_19_35 (z0 : ST) (y1 y2 : Int32) : OR := bnd (stI z0 11 y2) (fun z1 => bnd (stI z1 12 ((z1.1 12) - 1)) (fun z2 => some (y1, z2)))
def x_Fifo_take_19 (z0 : ST) : OR := gin (z0.1 11) 6 (if 6 ≤ ((z0.1 11) + 1) then (x_Fifo_take_19_35 z0 (z0.2 16 (z0.1 11).toNatClampNeg) 0) else (x_Fifo_take_19_35 z0 (z0.2 16 (z0.1 11).toNatClampNeg) ((z0.1 11) + 1)))
set_option maxRecDepth 100000 in
set_option maxHeartbeats 4000000 in
theorem c_x_Fifo_take_19 (l : Launch) (dC : Nat → ClassId) (dI : Nat → Nat → Nat) (cI cZ : ClassId) (ad : Nat → Nat) (z0 : ST) (R : Int32 × ST) (h : x_Fifo_take_19 z0 = some R) : qMi l y_Fifo_take w_Fifo_take 0 0 (KX dC dI cI cZ) (dC, dI) q_cl (wX cI cZ ad) [.ref (ad 19)] z0 R := by
  intro sz
  refine Met.ofW (cc := b_Fifo_take) (maxL := 2) (ret := (some .int)) (by decide) rfl ?_
  intro p e s m args below meth c s₁ B hml hv
  obtain ⟨rfl, hsz, hP, hKK, hD0⟩ := hv
  have hx := B.exec
  have hb := B.bytes
  have hr := B.returns
  have hts : ∀ w ∈ q_big, w.before _ s = true := fun w h => atoms_spec (ws := w_Fifo_take) B.pre w (List.mem_cons_of_mem _ h)
  have hown : s.vm.findClass "SlippedStreams$Fifo" = some m.cls := findClass_of_methodNamed B.named
  have hlocks := B.notSynchronized
  subst hsz
  have hD := hD0.self (sz := s.heap.size)
  generalize hAe : va_A (wX cI cZ ad z0) s.heap.size = A at hD ⊢
  have hA : ∀ q : Nat, s.heap.size ≤ q → A q := fun q h => by rw [← hAe]; exact Or.inr h
  have hS : va_S A s.heap s.heap [] := va_S.rf
  have hK := hKK.1
  have hl := lv_entry ([.ref (ad 19)]) (n := 2) (Nat.le_of_ble_eq_true rfl)
  rw [lg_entry_eq]
  generalize (lg_sl ([.ref (ad 19)]) ++ List.replicate (2 - (lg_sl ([.ref (ad 19)])).length) Slot.unset).toArray = ls at hl ⊢
  have hl : lv_has ls 2 [(0, .ref (ad 19))] := hl
  have jp_35 : ∀ (z0 : ST) (y1 y2 : Int32) (H : Heap) (locs : List Loc) (ls : Array Slot), x_Fifo_take_19_35 z0 y1 y2 = some R → va_P (dC, dI) q_cl (wX cI cZ ad z0) H → va_D A (wX cI cZ ad z0) → va_S A s.heap H locs → lv_has ls 2 [(0, .ref (ad 19)), (1, .int y1)] → qWi p l e w_Fifo_take 0 0 s m [.ref (ad 19)] below meth c (dC, dI) q_cl (wX cI cZ ad) A R H locs (F0 m 35 ls [.int y2, .ref (ad 19)]) := by
    intro z0 y1 y2 H locs ls h hP hD hS hl
    unfold x_Fifo_take_19_35 at h
    obtain ⟨z1, e1, h⟩ := bnd_e h
    refine xp_19_first hx hb hts hin_Fifo hown hK hP hD hS (hts _ k_160) (fun _ h9 => h9) d_Fifo_take_35 e1 (fun H locs hP hD hS => ?_)
    refine lv_aload_n hx hb d_Fifo_take_38 rfl (lv_at hl 0 rfl) ?_
    refine lv_dup hx hb d_Fifo_take_39 rfl ?_
    refine xg_19_size hx hb hts hin_Fifo hown hK hP (hts _ k_161) (fun _ h9 => h9) d_Fifo_take_40 ?_
    refine lv_iconst (v := 1) hx hb d_Fifo_take_43 (by decide) ?_
    refine lv_isub hx hb d_Fifo_take_44 ?_
    obtain ⟨z2, e2, h⟩ := bnd_e h
    refine xp_19_size hx hb hts hin_Fifo hown hK hP hD hS (hts _ k_161) (fun _ h9 => h9) d_Fifo_take_45 e2 (fun H locs hP hD hS => ?_)
    refine lv_iload_n hx hb d_Fifo_take_48 rfl (lv_at hl 1 rfl) ?_
    exact q_iret hx hb hr hlocks h hP hD hS d_Fifo_take_49
  unfold x_Fifo_take_19 at h
  refine lv_aload_n hx hb d_Fifo_take_0 rfl (lv_at hl 0 rfl) ?_
  refine xg_19_things hx hb hts hin_Fifo hown hK hP (hts _ k_159) (fun _ h9 => h9) d_Fifo_take_1 ?_
  refine lv_aload_n hx hb d_Fifo_take_4 rfl (lv_at hl 0 rfl) ?_
  refine xg_19_first hx hb hts hin_Fifo hown hK hP (hts _ k_160) (fun _ h9 => h9) d_Fifo_take_5 ?_
  obtain ⟨hi, h⟩ := gin_e h
  refine xl_16 hx hb hK hP hi d_Fifo_take_8 ?_
  refine lv_istore_n (lv' := [(1, .int (z0.2 16 (z0.1 11).toNatClampNeg)), (0, .ref (ad 19))]) hx hb d_Fifo_take_9 rfl hl (by decide) rfl (fun ls hl => ?_)
  refine lv_aload_n hx hb d_Fifo_take_10 rfl (lv_at hl 1 rfl) ?_
  refine lv_aload_n hx hb d_Fifo_take_11 rfl (lv_at hl 1 rfl) ?_
  refine xg_19_first hx hb hts hin_Fifo hown hK hP (hts _ k_160) (fun _ h9 => h9) d_Fifo_take_12 ?_
  refine lv_iconst (v := 1) hx hb d_Fifo_take_15 (by decide) ?_
  refine lv_iadd hx hb d_Fifo_take_16 ?_
  refine lv_aload_n hx hb d_Fifo_take_17 rfl (lv_at hl 1 rfl) ?_
  refine xg_19_things hx hb hts hin_Fifo hown hK hP (hts _ k_159) (fun _ h9 => h9) d_Fifo_take_18 ?_
  refine va_alen (v := 6) hx hb hK hP 24 0 rfl rfl rfl d_Fifo_take_21 ?_
  refine lv_icmp_ge (tgt := 34) hx hb d_Fifo_take_22 (by decide) (fun hc => ?_) (fun hc => ?_)
  · replace h := if_t hc h
    refine lv_iconst (v := 0) hx hb d_Fifo_take_34 (by decide) ?_
    exact jp_35 z0 (z0.2 16 (z0.1 11).toNatClampNeg) 0 _ _ _ h hP hD hS (lv_sub hl [1, 0] rfl)
  · replace h := if_f hc h
    refine lv_aload_n hx hb d_Fifo_take_25 rfl (lv_at hl 1 rfl) ?_
    refine xg_19_first hx hb hts hin_Fifo hown hK hP (hts _ k_160) (fun _ h9 => h9) d_Fifo_take_26 ?_
    refine lv_iconst (v := 1) hx hb d_Fifo_take_29 (by decide) ?_
    refine lv_iadd hx hb d_Fifo_take_30 ?_
    refine lv_goto (tgt := 35) hx hb d_Fifo_take_31 (by decide) ?_
    exact jp_35 z0 (z0.2 16 (z0.1 11).toNatClampNeg) ((z0.1 11) + 1) _ _ _ h hP hD hS (lv_sub hl [1, 0] rfl)
def x_ValueStream_receive_31 (z0 : ST) (x1 : Int32) : OR := if x1 = (-1) then (some (0, z0)) else (obn (x_Fifo_take_19 z0) (fun r1 z1 => gin x1 8 (bnd (stA z1 21 (upd (z1.2 21) x1.toNatClampNeg r1)) (fun z2 => some (0, z2)))))
set_option maxRecDepth 100000 in
set_option maxHeartbeats 4000000 in
theorem c_x_ValueStream_receive_31 (l : Launch) (dC : Nat → ClassId) (dI : Nat → Nat → Nat) (cI cZ : ClassId) (ad : Nat → Nat) (z0 : ST) (x1 : Int32) (R : Int32 × ST) (h : x_ValueStream_receive_31 z0 x1 = some R) : qMv l y_ValueStream_receive w_ValueStream_receive 1 21 (KX dC dI cI cZ) (dC, dI) q_cl (wX cI cZ ad) [.ref (ad 31), .int x1] z0 R := by
  intro sz
  refine Met.ofW (cc := b_ValueStream_receive) (maxL := 2) (ret := none) (by decide) rfl ?_
  intro p e s m args below meth c s₁ B hml hv
  obtain ⟨rfl, hsz, hP, hKK, hD0⟩ := hv
  have hx := B.exec
  have hb := B.bytes
  have hr := B.returns
  have hts : ∀ w ∈ q_big, w.before _ s = true := fun w h => atoms_spec (ws := w_ValueStream_receive) B.pre w (List.mem_cons_of_mem _ h)
  have hown : s.vm.findClass "SlippedStreams$ValueStream" = some m.cls := findClass_of_methodNamed B.named
  have hlocks := B.notSynchronized
  subst hsz
  have hD := hD0.self (sz := s.heap.size)
  generalize hAe : va_A (wX cI cZ ad z0) s.heap.size = A at hD ⊢
  have hA : ∀ q : Nat, s.heap.size ≤ q → A q := fun q h => by rw [← hAe]; exact Or.inr h
  have hS : va_S A s.heap s.heap [] := va_S.rf
  have hK := hKK.1
  have hl := lv_entry ([.ref (ad 31), .int x1]) (n := 2) (Nat.le_of_ble_eq_true rfl)
  rw [lg_entry_eq]
  generalize (lg_sl ([.ref (ad 31), .int x1]) ++ List.replicate (2 - (lg_sl ([.ref (ad 31), .int x1])).length) Slot.unset).toArray = ls at hl ⊢
  have hl : lv_has ls 2 [(0, .ref (ad 31)), (1, .int x1)] := hl
  unfold x_ValueStream_receive_31 at h
  refine lv_iload_n hx hb d_ValueStream_receive_0 rfl (lv_at hl 1 rfl) ?_
  refine lv_iconst (v := (-1)) hx hb d_ValueStream_receive_1 (by decide) ?_
  refine lv_icmp_eq (tgt := 21) hx hb d_ValueStream_receive_2 (by decide) (fun hc => ?_) (fun hc => ?_)
  · replace h := if_t hc h
    exact q_vret hx hb hr hlocks h hP hD hS d_ValueStream_receive_21
  · replace h := if_f hc h
    refine lv_aload_n hx hb d_ValueStream_receive_5 rfl (lv_at hl 0 rfl) ?_
    refine xg_31_registers hx hb hts hin_ValueStream hown hK hP (hts _ k_279) (fun x9 h9 => u_same (hts _ k_280) x9 h9) d_ValueStream_receive_6 ?_
    refine lv_iload_n hx hb d_ValueStream_receive_9 rfl (lv_at hl 1 rfl) ?_
    refine lv_aload_n hx hb d_ValueStream_receive_10 rfl (lv_at hl 0 rfl) ?_
    refine xg_31_link hx hb hts hin_ValueStream hown hK hP (hts _ k_255) (fun x9 h9 => u_same (hts _ k_256) x9 h9) d_ValueStream_receive_11 ?_
    refine xg_13_passed hx hb hts hin_Link hown hK hP (hts _ k_219) (fun _ h9 => h9) d_ValueStream_receive_14 ?_
    obtain ⟨r1, z1, hc1, h⟩ := obn_e h
    refine q_goi (va_runV (As := []) (rest := [.int x1, .ref (ad 32)]) ⟨hx, hb, hml, hown, hts⟩ (c_x_Fifo_take_19 l dC dI cI cZ ad z0 _ hc1 _) (cwV 0 hts (q_goodL _ (q_l4 k_696 k_591 k_592 k_56) k_593) rfl rfl rfl (by decide +kernel) ⟨Nat.le_of_ble_eq_true rfl, Nat.le_of_ble_eq_true rfl⟩) (q_preV qok hKK hP hD (va_recv (ci := 3) (q0 := 19) hK hP rfl rfl)) rfl rfl hl.1 rfl (lv_room (Nat.le_of_ble_eq_true rfl)) d_ValueStream_receive_17 ⟨Nat.le_refl _, Nat.le_refl _⟩) hD hS hA (fun H locs hP hD hS => ?_)
    obtain ⟨hi, h⟩ := gin_e h
    obtain ⟨z2, e2, h⟩ := bnd_e h
    refine xs_21 hx hb hK hP hD hS hi d_ValueStream_receive_20 e2 (fun H locs hP hD hS => ?_)
    exact q_vret hx hb hr hlocks h hP hD hS d_ValueStream_receive_21
def x_Run_combined_31 (z0 : ST) (x1 : Int32) : OR := gin x1 24 (gin (z0.2 2 x1.toNatClampNeg) 8 (gin x1 24 (gin (z0.2 3 x1.toNatClampNeg) 8 (gin x1 24 (if z0.2 0 x1.toNatClampNeg = 1 then (some ((z0.2 21 (z0.2 2 x1.toNatClampNeg).toNatClampNeg) + (z0.2 21 (z0.2 3 x1.toNatClampNeg).toNatClampNeg), z0)) else (if z0.2 0 x1.toNatClampNeg = 2 then (some ((z0.2 21 (z0.2 2 x1.toNatClampNeg).toNatClampNeg) - (z0.2 21 (z0.2 3 x1.toNatClampNeg).toNatClampNeg), z0)) else (some ((z0.2 21 (z0.2 2 x1.toNatClampNeg).toNatClampNeg) * (z0.2 21 (z0.2 3 x1.toNatClampNeg).toNatClampNeg), z0))))))))
set_option maxRecDepth 100000 in
set_option maxHeartbeats 4000000 in
theorem c_x_Run_combined_31 (l : Launch) (dC : Nat → ClassId) (dI : Nat → Nat → Nat) (cI cZ : ClassId) (ad : Nat → Nat) (z0 : ST) (x1 : Int32) (R : Int32 × ST) (h : x_Run_combined_31 z0 x1 = some R) : qMi l y_Run_combined w_Run_combined 0 0 (KX dC dI cI cZ) (dC, dI) q_cl (wX cI cZ ad) [.ref (ad 31), .int x1] z0 R := by
  intro sz
  refine Met.ofW (cc := b_Run_combined) (maxL := 4) (ret := (some .int)) (by decide) rfl ?_
  intro p e s m args below meth c s₁ B hml hv
  obtain ⟨rfl, hsz, hP, hKK, hD0⟩ := hv
  have hx := B.exec
  have hb := B.bytes
  have hr := B.returns
  have hts : ∀ w ∈ q_big, w.before _ s = true := fun w h => atoms_spec (ws := w_Run_combined) B.pre w (List.mem_cons_of_mem _ h)
  have hown : s.vm.findClass "SlippedStreams$Run" = some m.cls := findClass_of_methodNamed B.named
  have hlocks := B.notSynchronized
  subst hsz
  have hD := hD0.self (sz := s.heap.size)
  generalize hAe : va_A (wX cI cZ ad z0) s.heap.size = A at hD ⊢
  have hA : ∀ q : Nat, s.heap.size ≤ q → A q := fun q h => by rw [← hAe]; exact Or.inr h
  have hS : va_S A s.heap s.heap [] := va_S.rf
  have hK := hKK.1
  have hl := lv_entry ([.ref (ad 31), .int x1]) (n := 4) (Nat.le_of_ble_eq_true rfl)
  rw [lg_entry_eq]
  generalize (lg_sl ([.ref (ad 31), .int x1]) ++ List.replicate (4 - (lg_sl ([.ref (ad 31), .int x1])).length) Slot.unset).toArray = ls at hl ⊢
  have hl : lv_has ls 4 [(0, .ref (ad 31)), (1, .int x1)] := hl
  unfold x_Run_combined_31 at h
  refine lv_aload_n hx hb d_Run_combined_0 rfl (lv_at hl 0 rfl) ?_
  refine xg_31_registers hx hb hts hin_ValueStream hown hK hP (hts _ k_274) (fun _ h9 => h9) d_Run_combined_1 ?_
  refine lv_aload_n hx hb d_Run_combined_4 rfl (lv_at hl 0 rfl) ?_
  refine xg_31_program hx hb hts hin_ValueStream hown hK hP (hts _ k_265) (fun _ h9 => h9) d_Run_combined_5 ?_
  refine xg_1_bs hx hb hts hin_Program hown hK hP (hts _ k_94) (fun _ h9 => h9) d_Run_combined_8 ?_
  refine lv_iload_n hx hb d_Run_combined_11 rfl (lv_at hl 1 rfl) ?_
  obtain ⟨hi, h⟩ := gin_e h
  refine xl_2 hx hb hK hP hi d_Run_combined_12 ?_
  obtain ⟨hi, h⟩ := gin_e h
  refine xl_21 hx hb hK hP hi d_Run_combined_13 ?_
  refine lv_istore_n (lv' := [(2, .int (z0.2 21 (z0.2 2 x1.toNatClampNeg).toNatClampNeg)), (0, .ref (ad 31)), (1, .int x1)]) hx hb d_Run_combined_14 rfl hl (by decide) rfl (fun ls hl => ?_)
  refine lv_aload_n hx hb d_Run_combined_15 rfl (lv_at hl 1 rfl) ?_
  refine xg_31_registers hx hb hts hin_ValueStream hown hK hP (hts _ k_274) (fun _ h9 => h9) d_Run_combined_16 ?_
  refine lv_aload_n hx hb d_Run_combined_19 rfl (lv_at hl 1 rfl) ?_
  refine xg_31_program hx hb hts hin_ValueStream hown hK hP (hts _ k_265) (fun _ h9 => h9) d_Run_combined_20 ?_
  refine xg_1_cs hx hb hts hin_Program hown hK hP (hts _ k_96) (fun _ h9 => h9) d_Run_combined_23 ?_
  refine lv_iload_n hx hb d_Run_combined_26 rfl (lv_at hl 2 rfl) ?_
  obtain ⟨hi, h⟩ := gin_e h
  refine xl_3 hx hb hK hP hi d_Run_combined_27 ?_
  obtain ⟨hi, h⟩ := gin_e h
  refine xl_21 hx hb hK hP hi d_Run_combined_28 ?_
  refine lv_istore_n (lv' := [(3, .int (z0.2 21 (z0.2 3 x1.toNatClampNeg).toNatClampNeg)), (2, .int (z0.2 21 (z0.2 2 x1.toNatClampNeg).toNatClampNeg)), (0, .ref (ad 31)), (1, .int x1)]) hx hb d_Run_combined_29 rfl hl (by decide) rfl (fun ls hl => ?_)
  refine lv_aload_n hx hb d_Run_combined_30 rfl (lv_at hl 2 rfl) ?_
  refine xg_31_program hx hb hts hin_ValueStream hown hK hP (hts _ k_265) (fun _ h9 => h9) d_Run_combined_31 ?_
  refine xg_1_kinds hx hb hts hin_Program hown hK hP (hts _ k_87) (fun _ h9 => h9) d_Run_combined_34 ?_
  refine lv_iload_n hx hb d_Run_combined_37 rfl (lv_at hl 3 rfl) ?_
  obtain ⟨hi, h⟩ := gin_e h
  refine xl_0 hx hb hK hP hi d_Run_combined_38 ?_
  by_cases hc0 : z0.2 0 x1.toNatClampNeg = 1
  · replace h := if_t hc0 h
    refine lv_lookup (tgt := 64) (off := 25) hx hb d_Run_combined_39 (by decide) (by rw [hc0]; rfl) (by decide) ?_
    refine lv_iload_n hx hb d_Run_combined_64 rfl (lv_at hl 1 rfl) ?_
    refine lv_iload_n hx hb d_Run_combined_65 rfl (lv_at hl 0 rfl) ?_
    refine lv_iadd hx hb d_Run_combined_66 ?_
    exact q_iret hx hb hr hlocks h hP hD hS d_Run_combined_67
  · replace h := if_f hc0 h
    by_cases hc1 : z0.2 0 x1.toNatClampNeg = 2
    · replace h := if_t hc1 h
      refine lv_lookup (tgt := 68) (off := 29) hx hb d_Run_combined_39 (by decide) (by rw [hc1]; rfl) (by decide) ?_
      refine lv_iload_n hx hb d_Run_combined_68 rfl (lv_at hl 1 rfl) ?_
      refine lv_iload_n hx hb d_Run_combined_69 rfl (lv_at hl 0 rfl) ?_
      refine lv_isub hx hb d_Run_combined_70 ?_
      exact q_iret hx hb hr hlocks h hP hD hS d_Run_combined_71
    · replace h := if_f hc1 h
      refine lv_lookup (tgt := 72) (off := 33) hx hb d_Run_combined_39 (by decide) ((lv_osw hc0 (by decide)).trans ((lv_osw hc1 (by decide)).trans rfl)) (by decide) ?_
      refine lv_iload_n hx hb d_Run_combined_72 rfl (lv_at hl 1 rfl) ?_
      refine lv_iload_n hx hb d_Run_combined_73 rfl (lv_at hl 0 rfl) ?_
      refine lv_imul hx hb d_Run_combined_74 ?_
      exact q_iret hx hb hr hlocks h hP hD hS d_Run_combined_75
def x_Run_compute_31_42 (z0 : ST) (y1 y2 y3 : Int32) : OR := gin y2 8 (bnd (stA z0 21 (upd (z0.2 21) y2.toNatClampNeg y3)) (fun z1 => some (0, z1)))
def x_Run_compute_31 (z0 : ST) (x1 : Int32) : OR := gin x1 24 (gin x1 24 (if (z0.2 0 x1.toNatClampNeg) = 0 then (gin x1 24 (x_Run_compute_31_42 z0 x1 (z0.2 1 x1.toNatClampNeg) (z0.2 3 x1.toNatClampNeg))) else (obn (x_Run_combined_31 z0 x1) (fun r2 z2 => x_Run_compute_31_42 z2 x1 (z0.2 1 x1.toNatClampNeg) r2))))
set_option maxRecDepth 100000 in
set_option maxHeartbeats 4000000 in
theorem c_x_Run_compute_31 (l : Launch) (dC : Nat → ClassId) (dI : Nat → Nat → Nat) (cI cZ : ClassId) (ad : Nat → Nat) (z0 : ST) (x1 : Int32) (R : Int32 × ST) (h : x_Run_compute_31 z0 x1 = some R) : qMv l y_Run_compute w_Run_compute 1 23 (KX dC dI cI cZ) (dC, dI) q_cl (wX cI cZ ad) [.ref (ad 31), .int x1] z0 R := by
  intro sz
  refine Met.ofW (cc := b_Run_compute) (maxL := 2) (ret := none) (by decide) rfl ?_
  intro p e s m args below meth c s₁ B hml hv
  obtain ⟨rfl, hsz, hP, hKK, hD0⟩ := hv
  have hx := B.exec
  have hb := B.bytes
  have hr := B.returns
  have hts : ∀ w ∈ q_big, w.before _ s = true := fun w h => atoms_spec (ws := w_Run_compute) B.pre w (List.mem_cons_of_mem _ h)
  have hown : s.vm.findClass "SlippedStreams$Run" = some m.cls := findClass_of_methodNamed B.named
  have hlocks := B.notSynchronized
  subst hsz
  have hD := hD0.self (sz := s.heap.size)
  generalize hAe : va_A (wX cI cZ ad z0) s.heap.size = A at hD ⊢
  have hA : ∀ q : Nat, s.heap.size ≤ q → A q := fun q h => by rw [← hAe]; exact Or.inr h
  have hS : va_S A s.heap s.heap [] := va_S.rf
  have hK := hKK.1
  have hl := lv_entry ([.ref (ad 31), .int x1]) (n := 2) (Nat.le_of_ble_eq_true rfl)
  rw [lg_entry_eq]
  generalize (lg_sl ([.ref (ad 31), .int x1]) ++ List.replicate (2 - (lg_sl ([.ref (ad 31), .int x1])).length) Slot.unset).toArray = ls at hl ⊢
  have hl : lv_has ls 2 [(0, .ref (ad 31)), (1, .int x1)] := hl
  have jp_42 : ∀ (z0 : ST) (y1 y2 y3 : Int32) (H : Heap) (locs : List Loc) (ls : Array Slot), x_Run_compute_31_42 z0 y1 y2 y3 = some R → va_P (dC, dI) q_cl (wX cI cZ ad z0) H → va_D A (wX cI cZ ad z0) → va_S A s.heap H locs → lv_has ls 2 [(0, .ref (ad 31)), (1, .int y1)] → qWv p l e w_Run_compute 1 23 s m [.ref (ad 31), .int x1] below meth c (dC, dI) q_cl (wX cI cZ ad) A R H locs (F0 m 42 ls [.int y3, .int y2, .ref (ad 32)]) := by
    intro z0 y1 y2 y3 H locs ls h hP hD hS hl
    unfold x_Run_compute_31_42 at h
    obtain ⟨hi, h⟩ := gin_e h
    obtain ⟨z1, e1, h⟩ := bnd_e h
    refine xs_21 hx hb hK hP hD hS hi d_Run_compute_42 e1 (fun H locs hP hD hS => ?_)
    exact q_vret hx hb hr hlocks h hP hD hS d_Run_compute_43
  unfold x_Run_compute_31 at h
  refine lv_aload_n hx hb d_Run_compute_0 rfl (lv_at hl 0 rfl) ?_
  refine xg_31_registers hx hb hts hin_ValueStream hown hK hP (hts _ k_274) (fun _ h9 => h9) d_Run_compute_1 ?_
  refine lv_aload_n hx hb d_Run_compute_4 rfl (lv_at hl 0 rfl) ?_
  refine xg_31_program hx hb hts hin_ValueStream hown hK hP (hts _ k_265) (fun _ h9 => h9) d_Run_compute_5 ?_
  refine xg_1_as hx hb hts hin_Program hown hK hP (hts _ k_92) (fun _ h9 => h9) d_Run_compute_8 ?_
  refine lv_iload_n hx hb d_Run_compute_11 rfl (lv_at hl 1 rfl) ?_
  obtain ⟨hi, h⟩ := gin_e h
  refine xl_1 hx hb hK hP hi d_Run_compute_12 ?_
  refine lv_aload_n hx hb d_Run_compute_13 rfl (lv_at hl 0 rfl) ?_
  refine xg_31_program hx hb hts hin_ValueStream hown hK hP (hts _ k_265) (fun _ h9 => h9) d_Run_compute_14 ?_
  refine xg_1_kinds hx hb hts hin_Program hown hK hP (hts _ k_87) (fun _ h9 => h9) d_Run_compute_17 ?_
  refine lv_iload_n hx hb d_Run_compute_20 rfl (lv_at hl 1 rfl) ?_
  obtain ⟨hi, h⟩ := gin_e h
  refine xl_0 hx hb hK hP hi d_Run_compute_21 ?_
  refine lv_if_ne (tgt := 37) hx hb d_Run_compute_22 (by decide) (fun hc => ?_) (fun hc => ?_)
  · replace h := if_f hc h
    refine lv_aload_n hx hb d_Run_compute_37 rfl (lv_at hl 0 rfl) ?_
    refine lv_iload_n hx hb d_Run_compute_38 rfl (lv_at hl 1 rfl) ?_
    obtain ⟨r2, z2, hc2, h⟩ := obn_e h
    refine q_goi (va_runU (As := [.int x1]) (rest := [.int (z0.2 1 x1.toNatClampNeg), .ref (ad 32)]) ⟨hx, hb, hml, hown, hts⟩ (c_x_Run_combined_31 l dC dI cI cZ ad z0 x1 _ hc2 _) (va_cwU 1 hts (q_goodL _ (q_l5 k_630 k_1088 k_3 k_632 k_58) k_633) rfl rfl rfl rfl (by decide +kernel) ⟨Nat.le_of_ble_eq_true rfl, Nat.le_of_ble_eq_true rfl⟩) (q_preV qok hKK hP hD (va_recv (ci := 6) (q0 := 31) hK hP rfl rfl)) rfl rfl hl.1 rfl (lv_room (Nat.le_of_ble_eq_true rfl)) d_Run_compute_39 ⟨Nat.le_refl _, Nat.le_refl _⟩) hD hS hA (fun H locs hP hD hS => ?_)
    exact jp_42 z2 x1 (z0.2 1 x1.toNatClampNeg) r2 _ _ _ h hP hD hS (lv_sub hl [0, 1] rfl)
  · replace h := if_t hc h
    refine lv_aload_n hx hb d_Run_compute_25 rfl (lv_at hl 0 rfl) ?_
    refine xg_31_program hx hb hts hin_ValueStream hown hK hP (hts _ k_265) (fun _ h9 => h9) d_Run_compute_26 ?_
    refine xg_1_cs hx hb hts hin_Program hown hK hP (hts _ k_96) (fun _ h9 => h9) d_Run_compute_29 ?_
    refine lv_iload_n hx hb d_Run_compute_32 rfl (lv_at hl 1 rfl) ?_
    obtain ⟨hi, h⟩ := gin_e h
    refine xl_3 hx hb hK hP hi d_Run_compute_33 ?_
    refine lv_goto (tgt := 42) hx hb d_Run_compute_34 (by decide) ?_
    exact jp_42 z0 x1 (z0.2 1 x1.toNatClampNeg) (z0.2 3 x1.toNatClampNeg) _ _ _ h hP hD hS (lv_sub hl [0, 1] rfl)
def x_Written_write_33_19 (z0 : ST) (y1 : Int32) : OR := bnd (stI z0 20 ((z0.1 20) + 1)) (fun z1 => some (0, z1))
def x_Written_write_33 (z0 : ST) (x1 : Int32) : OR := if 64 ≤ (z0.1 20) then (x_Written_write_33_19 z0 x1) else (gin (z0.1 20) 64 (bnd (stA z0 22 (upd (z0.2 22) (z0.1 20).toNatClampNeg x1)) (fun z2 => x_Written_write_33_19 z2 x1)))
set_option maxRecDepth 100000 in
set_option maxHeartbeats 4000000 in
theorem c_x_Written_write_33 (l : Launch) (dC : Nat → ClassId) (dI : Nat → Nat → Nat) (cI cZ : ClassId) (ad : Nat → Nat) (z0 : ST) (x1 : Int32) (R : Int32 × ST) (h : x_Written_write_33 z0 x1 = some R) : qMv l y_Written_write w_Written_write 0 0 (KX dC dI cI cZ) (dC, dI) q_cl (wX cI cZ ad) [.ref (ad 33), .int x1] z0 R := by
  intro sz
  refine Met.ofW (cc := b_Written_write) (maxL := 2) (ret := none) (by decide) rfl ?_
  intro p e s m args below meth c s₁ B hml hv
  obtain ⟨rfl, hsz, hP, hKK, hD0⟩ := hv
  have hx := B.exec
  have hb := B.bytes
  have hr := B.returns
  have hts : ∀ w ∈ q_big, w.before _ s = true := fun w h => atoms_spec (ws := w_Written_write) B.pre w (List.mem_cons_of_mem _ h)
  have hown : s.vm.findClass "SlippedStreams$Written" = some m.cls := findClass_of_methodNamed B.named
  have hlocks := B.notSynchronized
  subst hsz
  have hD := hD0.self (sz := s.heap.size)
  generalize hAe : va_A (wX cI cZ ad z0) s.heap.size = A at hD ⊢
  have hA : ∀ q : Nat, s.heap.size ≤ q → A q := fun q h => by rw [← hAe]; exact Or.inr h
  have hS : va_S A s.heap s.heap [] := va_S.rf
  have hK := hKK.1
  have hl := lv_entry ([.ref (ad 33), .int x1]) (n := 2) (Nat.le_of_ble_eq_true rfl)
  rw [lg_entry_eq]
  generalize (lg_sl ([.ref (ad 33), .int x1]) ++ List.replicate (2 - (lg_sl ([.ref (ad 33), .int x1])).length) Slot.unset).toArray = ls at hl ⊢
  have hl : lv_has ls 2 [(0, .ref (ad 33)), (1, .int x1)] := hl
  have jp_19 : ∀ (z0 : ST) (y1 : Int32) (H : Heap) (locs : List Loc) (ls : Array Slot), x_Written_write_33_19 z0 y1 = some R → va_P (dC, dI) q_cl (wX cI cZ ad z0) H → va_D A (wX cI cZ ad z0) → va_S A s.heap H locs → lv_has ls 2 [(0, .ref (ad 33)), (1, .int y1)] → qWv p l e w_Written_write 0 0 s m [.ref (ad 33), .int x1] below meth c (dC, dI) q_cl (wX cI cZ ad) A R H locs (F0 m 19 ls []) := by
    intro z0 y1 H locs ls h hP hD hS hl
    unfold x_Written_write_33_19 at h
    refine lv_aload_n hx hb d_Written_write_19 rfl (lv_at hl 0 rfl) ?_
    refine lv_dup hx hb d_Written_write_20 rfl ?_
    refine xg_33_count hx hb hts hin_Written hown hK hP (hts _ k_323) (fun _ h9 => h9) d_Written_write_21 ?_
    refine lv_iconst (v := 1) hx hb d_Written_write_24 (by decide) ?_
    refine lv_iadd hx hb d_Written_write_25 ?_
    obtain ⟨z1, e1, h⟩ := bnd_e h
    refine xp_33_count hx hb hts hin_Written hown hK hP hD hS (hts _ k_323) (fun _ h9 => h9) d_Written_write_26 e1 (fun H locs hP hD hS => ?_)
    exact q_vret hx hb hr hlocks h hP hD hS d_Written_write_29
  unfold x_Written_write_33 at h
  refine lv_aload_n hx hb d_Written_write_0 rfl (lv_at hl 0 rfl) ?_
  refine xg_33_count hx hb hts hin_Written hown hK hP (hts _ k_323) (fun _ h9 => h9) d_Written_write_1 ?_
  refine lv_bipush (v := 64) hx hb d_Written_write_4 (by decide) ?_
  refine lv_icmp_ge (tgt := 19) hx hb d_Written_write_6 (by decide) (fun hc => ?_) (fun hc => ?_)
  · replace h := if_t hc h
    exact jp_19 z0 x1 _ _ _ h hP hD hS (lv_sub hl [0, 1] rfl)
  · replace h := if_f hc h
    refine lv_aload_n hx hb d_Written_write_9 rfl (lv_at hl 0 rfl) ?_
    refine xg_33_kept hx hb hts hin_Written hown hK hP (hts _ k_322) (fun _ h9 => h9) d_Written_write_10 ?_
    refine lv_aload_n hx hb d_Written_write_13 rfl (lv_at hl 0 rfl) ?_
    refine xg_33_count hx hb hts hin_Written hown hK hP (hts _ k_323) (fun _ h9 => h9) d_Written_write_14 ?_
    refine lv_iload_n hx hb d_Written_write_17 rfl (lv_at hl 1 rfl) ?_
    obtain ⟨hi, h⟩ := gin_e h
    obtain ⟨z2, e2, h⟩ := bnd_e h
    refine xs_22 hx hb hK hP hD hS hi d_Written_write_18 e2 (fun H locs hP hD hS => ?_)
    exact jp_19 z2 x1 _ _ _ h hP hD hS (lv_sub hl [0, 1] rfl)
def x_Fifo_put_18_34 (z0 : ST) (y1 y2 y3 : Int32) : OR := gin y3 4 (bnd (stA z0 15 (upd (z0.2 15) y3.toNatClampNeg y1)) (fun z1 => bnd (stI z1 10 ((z1.1 10) + 1)) (fun z2 => some (0, z2))))
def x_Fifo_put_18 (z0 : ST) (x1 : Int32) : OR := if 4 ≤ ((z0.1 9) + (z0.1 10)) then (x_Fifo_put_18_34 z0 x1 ((z0.1 9) + (z0.1 10)) (((z0.1 9) + (z0.1 10)) - 4)) else (x_Fifo_put_18_34 z0 x1 ((z0.1 9) + (z0.1 10)) ((z0.1 9) + (z0.1 10)))
set_option maxRecDepth 100000 in
set_option maxHeartbeats 4000000 in
theorem c_x_Fifo_put_18 (l : Launch) (dC : Nat → ClassId) (dI : Nat → Nat → Nat) (cI cZ : ClassId) (ad : Nat → Nat) (z0 : ST) (x1 : Int32) (R : Int32 × ST) (h : x_Fifo_put_18 z0 x1 = some R) : qMv l y_Fifo_put w_Fifo_put 0 0 (KX dC dI cI cZ) (dC, dI) q_cl (wX cI cZ ad) [.ref (ad 18), .int x1] z0 R := by
  intro sz
  refine Met.ofW (cc := b_Fifo_put) (maxL := 3) (ret := none) (by decide) rfl ?_
  intro p e s m args below meth c s₁ B hml hv
  obtain ⟨rfl, hsz, hP, hKK, hD0⟩ := hv
  have hx := B.exec
  have hb := B.bytes
  have hr := B.returns
  have hts : ∀ w ∈ q_big, w.before _ s = true := fun w h => atoms_spec (ws := w_Fifo_put) B.pre w (List.mem_cons_of_mem _ h)
  have hown : s.vm.findClass "SlippedStreams$Fifo" = some m.cls := findClass_of_methodNamed B.named
  have hlocks := B.notSynchronized
  subst hsz
  have hD := hD0.self (sz := s.heap.size)
  generalize hAe : va_A (wX cI cZ ad z0) s.heap.size = A at hD ⊢
  have hA : ∀ q : Nat, s.heap.size ≤ q → A q := fun q h => by rw [← hAe]; exact Or.inr h
  have hS : va_S A s.heap s.heap [] := va_S.rf
  have hK := hKK.1
  have hl := lv_entry ([.ref (ad 18), .int x1]) (n := 3) (Nat.le_of_ble_eq_true rfl)
  rw [lg_entry_eq]
  generalize (lg_sl ([.ref (ad 18), .int x1]) ++ List.replicate (3 - (lg_sl ([.ref (ad 18), .int x1])).length) Slot.unset).toArray = ls at hl ⊢
  have hl : lv_has ls 3 [(0, .ref (ad 18)), (1, .int x1)] := hl
  have jp_34 : ∀ (z0 : ST) (y1 y2 y3 : Int32) (H : Heap) (locs : List Loc) (ls : Array Slot), x_Fifo_put_18_34 z0 y1 y2 y3 = some R → va_P (dC, dI) q_cl (wX cI cZ ad z0) H → va_D A (wX cI cZ ad z0) → va_S A s.heap H locs → lv_has ls 3 [(0, .ref (ad 18)), (1, .int y1), (2, .int y2)] → qWv p l e w_Fifo_put 0 0 s m [.ref (ad 18), .int x1] below meth c (dC, dI) q_cl (wX cI cZ ad) A R H locs (F0 m 34 ls [.int y3, .ref (ad 23)]) := by
    intro z0 y1 y2 y3 H locs ls h hP hD hS hl
    unfold x_Fifo_put_18_34 at h
    refine lv_iload_n hx hb d_Fifo_put_34 rfl (lv_at hl 1 rfl) ?_
    obtain ⟨hi, h⟩ := gin_e h
    obtain ⟨z1, e1, h⟩ := bnd_e h
    refine xs_15 hx hb hK hP hD hS hi d_Fifo_put_35 e1 (fun H locs hP hD hS => ?_)
    refine lv_aload_n hx hb d_Fifo_put_36 rfl (lv_at hl 0 rfl) ?_
    refine lv_dup hx hb d_Fifo_put_37 rfl ?_
    refine xg_18_size hx hb hts hin_Fifo hown hK hP (hts _ k_161) (fun _ h9 => h9) d_Fifo_put_38 ?_
    refine lv_iconst (v := 1) hx hb d_Fifo_put_41 (by decide) ?_
    refine lv_iadd hx hb d_Fifo_put_42 ?_
    obtain ⟨z2, e2, h⟩ := bnd_e h
    refine xp_18_size hx hb hts hin_Fifo hown hK hP hD hS (hts _ k_161) (fun _ h9 => h9) d_Fifo_put_43 e2 (fun H locs hP hD hS => ?_)
    exact q_vret hx hb hr hlocks h hP hD hS d_Fifo_put_46
  unfold x_Fifo_put_18 at h
  refine lv_aload_n hx hb d_Fifo_put_0 rfl (lv_at hl 0 rfl) ?_
  refine xg_18_first hx hb hts hin_Fifo hown hK hP (hts _ k_160) (fun _ h9 => h9) d_Fifo_put_1 ?_
  refine lv_aload_n hx hb d_Fifo_put_4 rfl (lv_at hl 0 rfl) ?_
  refine xg_18_size hx hb hts hin_Fifo hown hK hP (hts _ k_161) (fun _ h9 => h9) d_Fifo_put_5 ?_
  refine lv_iadd hx hb d_Fifo_put_8 ?_
  refine lv_istore_n (lv' := [(2, .int ((z0.1 9) + (z0.1 10))), (0, .ref (ad 18)), (1, .int x1)]) hx hb d_Fifo_put_9 rfl hl (by decide) rfl (fun ls hl => ?_)
  refine lv_aload_n hx hb d_Fifo_put_10 rfl (lv_at hl 1 rfl) ?_
  refine xg_18_things hx hb hts hin_Fifo hown hK hP (hts _ k_159) (fun _ h9 => h9) d_Fifo_put_11 ?_
  refine lv_iload_n hx hb d_Fifo_put_14 rfl (lv_at hl 0 rfl) ?_
  refine lv_aload_n hx hb d_Fifo_put_15 rfl (lv_at hl 1 rfl) ?_
  refine xg_18_things hx hb hts hin_Fifo hown hK hP (hts _ k_159) (fun _ h9 => h9) d_Fifo_put_16 ?_
  refine va_alen (v := 4) hx hb hK hP 23 0 rfl rfl rfl d_Fifo_put_19 ?_
  refine lv_icmp_ge (tgt := 27) hx hb d_Fifo_put_20 (by decide) (fun hc => ?_) (fun hc => ?_)
  · replace h := if_t hc h
    refine lv_iload_n hx hb d_Fifo_put_27 rfl (lv_at hl 0 rfl) ?_
    refine lv_aload_n hx hb d_Fifo_put_28 rfl (lv_at hl 1 rfl) ?_
    refine xg_18_things hx hb hts hin_Fifo hown hK hP (hts _ k_159) (fun _ h9 => h9) d_Fifo_put_29 ?_
    refine va_alen (v := 4) hx hb hK hP 23 0 rfl rfl rfl d_Fifo_put_32 ?_
    refine lv_isub hx hb d_Fifo_put_33 ?_
    exact jp_34 z0 x1 ((z0.1 9) + (z0.1 10)) (((z0.1 9) + (z0.1 10)) - 4) _ _ _ h hP hD hS (lv_sub hl [1, 2, 0] rfl)
  · replace h := if_f hc h
    refine lv_iload_n hx hb d_Fifo_put_23 rfl (lv_at hl 0 rfl) ?_
    refine lv_goto (tgt := 34) hx hb d_Fifo_put_24 (by decide) ?_
    exact jp_34 z0 x1 ((z0.1 9) + (z0.1 10)) ((z0.1 9) + (z0.1 10)) _ _ _ h hP hD hS (lv_sub hl [1, 2, 0] rfl)
def x_Run_test_31 (z0 : ST) (x1 : Int32) : OR := gin x1 24 (gin (z0.2 1 x1.toNatClampNeg) 8 (gin x1 24 (gin (z0.2 2 x1.toNatClampNeg) 8 (gin x1 24 (if (z0.2 0 x1.toNatClampNeg) = 6 then (if (z0.2 21 (z0.2 2 x1.toNatClampNeg).toNatClampNeg) ≤ (z0.2 21 (z0.2 1 x1.toNatClampNeg).toNatClampNeg) then (gib 0 (some (0, z0))) else (gib 1 (some (1, z0)))) else (if (z0.2 21 (z0.2 1 x1.toNatClampNeg).toNatClampNeg) = (z0.2 21 (z0.2 2 x1.toNatClampNeg).toNatClampNeg) then (gib 0 (some (0, z0))) else (gib 1 (some (1, z0)))))))))
set_option maxRecDepth 100000 in
set_option maxHeartbeats 4000000 in
theorem c_x_Run_test_31 (l : Launch) (dC : Nat → ClassId) (dI : Nat → Nat → Nat) (cI cZ : ClassId) (ad : Nat → Nat) (z0 : ST) (x1 : Int32) (R : Int32 × ST) (h : x_Run_test_31 z0 x1 = some R) : qMi l y_Run_test w_Run_test 0 0 (KX dC dI cI cZ) (dC, dI) q_cl (wX cI cZ ad) [.ref (ad 31), .int x1] z0 R := by
  intro sz
  refine Met.ofW (cc := b_Run_test) (maxL := 4) (ret := (some .boolean)) (by decide) rfl ?_
  intro p e s m args below meth c s₁ B hml hv
  obtain ⟨rfl, hsz, hP, hKK, hD0⟩ := hv
  have hx := B.exec
  have hb := B.bytes
  have hr := B.returns
  have hts : ∀ w ∈ q_big, w.before _ s = true := fun w h => atoms_spec (ws := w_Run_test) B.pre w (List.mem_cons_of_mem _ h)
  have hown : s.vm.findClass "SlippedStreams$Run" = some m.cls := findClass_of_methodNamed B.named
  have hlocks := B.notSynchronized
  subst hsz
  have hD := hD0.self (sz := s.heap.size)
  generalize hAe : va_A (wX cI cZ ad z0) s.heap.size = A at hD ⊢
  have hA : ∀ q : Nat, s.heap.size ≤ q → A q := fun q h => by rw [← hAe]; exact Or.inr h
  have hS : va_S A s.heap s.heap [] := va_S.rf
  have hK := hKK.1
  have hl := lv_entry ([.ref (ad 31), .int x1]) (n := 4) (Nat.le_of_ble_eq_true rfl)
  rw [lg_entry_eq]
  generalize (lg_sl ([.ref (ad 31), .int x1]) ++ List.replicate (4 - (lg_sl ([.ref (ad 31), .int x1])).length) Slot.unset).toArray = ls at hl ⊢
  have hl : lv_has ls 4 [(0, .ref (ad 31)), (1, .int x1)] := hl
  unfold x_Run_test_31 at h
  refine lv_aload_n hx hb d_Run_test_0 rfl (lv_at hl 0 rfl) ?_
  refine xg_31_registers hx hb hts hin_ValueStream hown hK hP (hts _ k_274) (fun _ h9 => h9) d_Run_test_1 ?_
  refine lv_aload_n hx hb d_Run_test_4 rfl (lv_at hl 0 rfl) ?_
  refine xg_31_program hx hb hts hin_ValueStream hown hK hP (hts _ k_265) (fun _ h9 => h9) d_Run_test_5 ?_
  refine xg_1_as hx hb hts hin_Program hown hK hP (hts _ k_92) (fun _ h9 => h9) d_Run_test_8 ?_
  refine lv_iload_n hx hb d_Run_test_11 rfl (lv_at hl 1 rfl) ?_
  obtain ⟨hi, h⟩ := gin_e h
  refine xl_1 hx hb hK hP hi d_Run_test_12 ?_
  obtain ⟨hi, h⟩ := gin_e h
  refine xl_21 hx hb hK hP hi d_Run_test_13 ?_
  refine lv_istore_n (lv' := [(2, .int (z0.2 21 (z0.2 1 x1.toNatClampNeg).toNatClampNeg)), (0, .ref (ad 31)), (1, .int x1)]) hx hb d_Run_test_14 rfl hl (by decide) rfl (fun ls hl => ?_)
  refine lv_aload_n hx hb d_Run_test_15 rfl (lv_at hl 1 rfl) ?_
  refine xg_31_registers hx hb hts hin_ValueStream hown hK hP (hts _ k_274) (fun _ h9 => h9) d_Run_test_16 ?_
  refine lv_aload_n hx hb d_Run_test_19 rfl (lv_at hl 1 rfl) ?_
  refine xg_31_program hx hb hts hin_ValueStream hown hK hP (hts _ k_265) (fun _ h9 => h9) d_Run_test_20 ?_
  refine xg_1_bs hx hb hts hin_Program hown hK hP (hts _ k_94) (fun _ h9 => h9) d_Run_test_23 ?_
  refine lv_iload_n hx hb d_Run_test_26 rfl (lv_at hl 2 rfl) ?_
  obtain ⟨hi, h⟩ := gin_e h
  refine xl_2 hx hb hK hP hi d_Run_test_27 ?_
  obtain ⟨hi, h⟩ := gin_e h
  refine xl_21 hx hb hK hP hi d_Run_test_28 ?_
  refine lv_istore_n (lv' := [(3, .int (z0.2 21 (z0.2 2 x1.toNatClampNeg).toNatClampNeg)), (2, .int (z0.2 21 (z0.2 1 x1.toNatClampNeg).toNatClampNeg)), (0, .ref (ad 31)), (1, .int x1)]) hx hb d_Run_test_29 rfl hl (by decide) rfl (fun ls hl => ?_)
  refine lv_aload_n hx hb d_Run_test_30 rfl (lv_at hl 2 rfl) ?_
  refine xg_31_program hx hb hts hin_ValueStream hown hK hP (hts _ k_265) (fun _ h9 => h9) d_Run_test_31 ?_
  refine xg_1_kinds hx hb hts hin_Program hown hK hP (hts _ k_87) (fun _ h9 => h9) d_Run_test_34 ?_
  refine lv_iload_n hx hb d_Run_test_37 rfl (lv_at hl 3 rfl) ?_
  obtain ⟨hi, h⟩ := gin_e h
  refine xl_0 hx hb hK hP hi d_Run_test_38 ?_
  refine lv_bipush (v := 6) hx hb d_Run_test_39 (by decide) ?_
  refine lv_icmp_ne (tgt := 57) hx hb d_Run_test_41 (by decide) (fun hc => ?_) (fun hc => ?_)
  · replace h := if_f hc h
    refine lv_iload_n hx hb d_Run_test_57 rfl (lv_at hl 1 rfl) ?_
    refine lv_iload_n hx hb d_Run_test_58 rfl (lv_at hl 0 rfl) ?_
    refine lv_icmp_eq (tgt := 66) hx hb d_Run_test_59 (by decide) (fun hc => ?_) (fun hc => ?_)
    · replace h := if_t hc h
      refine lv_iconst (v := 0) hx hb d_Run_test_66 (by decide) ?_
      exact q_zret hx hb hr hlocks h hP hD hS d_Run_test_67
    · replace h := if_f hc h
      refine lv_iconst (v := 1) hx hb d_Run_test_62 (by decide) ?_
      refine lv_goto (tgt := 67) hx hb d_Run_test_63 (by decide) ?_
      exact q_zret hx hb hr hlocks h hP hD hS d_Run_test_67
  · replace h := if_t hc h
    refine lv_iload_n hx hb d_Run_test_44 rfl (lv_at hl 1 rfl) ?_
    refine lv_iload_n hx hb d_Run_test_45 rfl (lv_at hl 0 rfl) ?_
    refine lv_icmp_ge (tgt := 53) hx hb d_Run_test_46 (by decide) (fun hc => ?_) (fun hc => ?_)
    · replace h := if_t hc h
      refine lv_iconst (v := 0) hx hb d_Run_test_53 (by decide) ?_
      refine lv_goto (tgt := 67) hx hb d_Run_test_54 (by decide) ?_
      exact q_zret hx hb hr hlocks h hP hD hS d_Run_test_67
    · replace h := if_f hc h
      refine lv_iconst (v := 1) hx hb d_Run_test_49 (by decide) ?_
      refine lv_goto (tgt := 67) hx hb d_Run_test_50 (by decide) ?_
      exact q_zret hx hb hr hlocks h hP hD hS d_Run_test_67
def x_Stream_sendOutcome_31_18_16 (z0 : ST) (y1 y2 y3 : Int32) : OR := obn (x_Fifo_put_18 z0 y3) (fun r1 z1 => obn (x_Run_behind_31 z1 y1 y2) (fun r2 z2 => obn (x_Stream_leaveFor_31 z2 r2) (fun r3 z3 => gib r3 (some (r3, z3)))))
def x_Stream_sendOutcome_31_18 (z0 : ST) (x1 : Int32) : OR := obn (x_Run_test_31 z0 x1) (fun r4 z4 => if r4 = 0 then (x_Stream_sendOutcome_31_18_16 z4 x1 r4 0) else (x_Stream_sendOutcome_31_18_16 z4 x1 r4 1))
set_option maxRecDepth 100000 in
set_option maxHeartbeats 4000000 in
theorem c_x_Stream_sendOutcome_31_18 (l : Launch) (dC : Nat → ClassId) (dI : Nat → Nat → Nat) (cI cZ : ClassId) (ad : Nat → Nat) (z0 : ST) (x1 : Int32) (R : Int32 × ST) (h : x_Stream_sendOutcome_31_18 z0 x1 = some R) : qMi l y_Stream_sendOutcome w_Stream_sendOutcome 2 41 (KX dC dI cI cZ) (dC, dI) q_cl (wX cI cZ ad) [.ref (ad 31), .int x1, .ref (ad 18)] z0 R := by
  intro sz
  refine Met.ofW (cc := b_Stream_sendOutcome) (maxL := 4) (ret := (some .boolean)) (by decide) rfl ?_
  intro p e s m args below meth c s₁ B hml hv
  obtain ⟨rfl, hsz, hP, hKK, hD0⟩ := hv
  have hx := B.exec
  have hb := B.bytes
  have hr := B.returns
  have hts : ∀ w ∈ q_big, w.before _ s = true := fun w h => atoms_spec (ws := w_Stream_sendOutcome) B.pre w (List.mem_cons_of_mem _ h)
  have hown : s.vm.findClass "SlippedStreams$Stream" = some m.cls := findClass_of_methodNamed B.named
  have hlocks := B.notSynchronized
  subst hsz
  have hD := hD0.self (sz := s.heap.size)
  generalize hAe : va_A (wX cI cZ ad z0) s.heap.size = A at hD ⊢
  have hA : ∀ q : Nat, s.heap.size ≤ q → A q := fun q h => by rw [← hAe]; exact Or.inr h
  have hS : va_S A s.heap s.heap [] := va_S.rf
  have hK := hKK.1
  have hl := lv_entry ([.ref (ad 31), .int x1, .ref (ad 18)]) (n := 4) (Nat.le_of_ble_eq_true rfl)
  rw [lg_entry_eq]
  generalize (lg_sl ([.ref (ad 31), .int x1, .ref (ad 18)]) ++ List.replicate (4 - (lg_sl ([.ref (ad 31), .int x1, .ref (ad 18)])).length) Slot.unset).toArray = ls at hl ⊢
  have hl : lv_has ls 4 [(0, .ref (ad 31)), (1, .int x1), (2, .ref (ad 18))] := hl
  have jp_16 : ∀ (z0 : ST) (y1 y2 y3 : Int32) (H : Heap) (locs : List Loc) (ls : Array Slot), x_Stream_sendOutcome_31_18_16 z0 y1 y2 y3 = some R → va_P (dC, dI) q_cl (wX cI cZ ad z0) H → va_D A (wX cI cZ ad z0) → va_S A s.heap H locs → lv_has ls 4 [(0, .ref (ad 31)), (1, .int y1), (2, .ref (ad 18)), (3, .int y2)] → qWi p l e w_Stream_sendOutcome 2 41 s m [.ref (ad 31), .int x1, .ref (ad 18)] below meth c (dC, dI) q_cl (wX cI cZ ad) A R H locs (F0 m 16 ls [.int y3, .ref (ad 18)]) := by
    intro z0 y1 y2 y3 H locs ls h hP hD hS hl
    unfold x_Stream_sendOutcome_31_18_16 at h
    obtain ⟨r1, z1, hc1, h⟩ := obn_e h
    refine q_gov (va_runV (As := [.int y3]) (rest := []) ⟨hx, hb, hml, hown, hts⟩ (c_x_Fifo_put_18 l dC dI cI cZ ad z0 y3 _ hc1 _) (cwV 1 hts (q_goodL _ (q_l4 k_612 k_613 k_614 k_56) k_615) rfl rfl rfl (by decide +kernel) ⟨Nat.le_of_ble_eq_true rfl, Nat.le_of_ble_eq_true rfl⟩) (q_preV qok hKK hP hD (va_recv (ci := 3) (q0 := 18) hK hP rfl rfl)) rfl rfl hl.1 rfl (lv_room (Nat.le_of_ble_eq_true rfl)) d_Stream_sendOutcome_16 ⟨Nat.le_refl _, Nat.le_refl _⟩) hD hS hA (fun H locs hP hD hS => ?_)
    refine lv_aload_n hx hb d_Stream_sendOutcome_19 rfl (lv_at hl 0 rfl) ?_
    refine lv_aload_n hx hb d_Stream_sendOutcome_20 rfl (lv_at hl 0 rfl) ?_
    refine lv_iload_n hx hb d_Stream_sendOutcome_21 rfl (lv_at hl 1 rfl) ?_
    refine lv_iload_n hx hb d_Stream_sendOutcome_22 rfl (lv_at hl 3 rfl) ?_
    obtain ⟨r2, z2, hc2, h⟩ := obn_e h
    refine q_goi (va_runU (As := [.int y1, .int y2]) (rest := [.ref (ad 31)]) ⟨hx, hb, hml, hown, hts⟩ (c_x_Run_behind_31 l dC dI cI cZ ad z1 y1 y2 _ hc2 _) (va_cwU 2 hts (q_goodL _ (q_l5 k_616 k_617 k_620 k_621 k_58) k_622) rfl rfl rfl rfl (by decide +kernel) ⟨Nat.le_of_ble_eq_true rfl, Nat.le_of_ble_eq_true rfl⟩) (q_preV qok hKK hP hD (va_recv (ci := 6) (q0 := 31) hK hP rfl rfl)) rfl rfl hl.1 rfl (lv_room (Nat.le_of_ble_eq_true rfl)) d_Stream_sendOutcome_23 ⟨Nat.le_refl _, Nat.le_refl _⟩) hD hS hA (fun H locs hP hD hS => ?_)
    obtain ⟨r3, z3, hc3, h⟩ := obn_e h
    refine q_goi (va_runU (As := [.int r2]) (rest := []) ⟨hx, hb, hml, hown, hts⟩ (c_x_Stream_leaveFor_31 l dC dI cI cZ ad z2 r2 _ hc3 _) (va_cwU 1 hts (q_goodL _ (q_l5 k_623 k_1085 k_1087 k_567 k_59) k_568) rfl rfl rfl rfl (by decide +kernel) ⟨Nat.le_of_ble_eq_true rfl, Nat.le_of_ble_eq_true rfl⟩) (q_preV qok hKK hP hD (va_recv (ci := 6) (q0 := 31) hK hP rfl rfl)) rfl rfl hl.1 rfl (lv_room (Nat.le_of_ble_eq_true rfl)) d_Stream_sendOutcome_26 ⟨Nat.le_refl _, Nat.le_refl _⟩) hD hS hA (fun H locs hP hD hS => ?_)
    exact q_zret hx hb hr hlocks h hP hD hS d_Stream_sendOutcome_29
  unfold x_Stream_sendOutcome_31_18 at h
  refine lv_aload_n hx hb d_Stream_sendOutcome_0 rfl (lv_at hl 0 rfl) ?_
  refine lv_iload_n hx hb d_Stream_sendOutcome_1 rfl (lv_at hl 1 rfl) ?_
  obtain ⟨r4, z4, hc4, h⟩ := obn_e h
  refine q_goi (va_runU (As := [.int x1]) (rest := []) ⟨hx, hb, hml, hown, hts⟩ (c_x_Run_test_31 l dC dI cI cZ ad z0 x1 _ hc4 _) (va_cwU 1 hts (q_goodL _ (q_l5 k_605 k_606 k_609 k_610 k_58) k_611) rfl rfl rfl rfl (by decide +kernel) ⟨Nat.le_of_ble_eq_true rfl, Nat.le_of_ble_eq_true rfl⟩) (q_preV qok hKK hP hD (va_recv (ci := 6) (q0 := 31) hK hP rfl rfl)) rfl rfl hl.1 rfl (lv_room (Nat.le_of_ble_eq_true rfl)) d_Stream_sendOutcome_2 ⟨Nat.le_refl _, Nat.le_refl _⟩) hD hS hA (fun H locs hP hD hS => ?_)
  refine lv_istore_n (lv' := [(3, .int r4), (0, .ref (ad 31)), (1, .int x1), (2, .ref (ad 18))]) hx hb d_Stream_sendOutcome_5 rfl hl (by decide) rfl (fun ls hl => ?_)
  refine lv_aload_n hx hb d_Stream_sendOutcome_6 rfl (lv_at hl 3 rfl) ?_
  refine lv_iload_n hx hb d_Stream_sendOutcome_7 rfl (lv_at hl 0 rfl) ?_
  refine lv_if_eq (tgt := 15) hx hb d_Stream_sendOutcome_8 (by decide) (fun hc => ?_) (fun hc => ?_)
  · replace h := if_t hc h
    refine lv_iconst (v := 0) hx hb d_Stream_sendOutcome_15 (by decide) ?_
    exact jp_16 z4 x1 r4 0 _ _ _ h hP hD hS (lv_sub hl [1, 2, 3, 0] rfl)
  · replace h := if_f hc h
    refine lv_iconst (v := 1) hx hb d_Stream_sendOutcome_11 (by decide) ?_
    refine lv_goto (tgt := 16) hx hb d_Stream_sendOutcome_12 (by decide) ?_
    exact jp_16 z4 x1 r4 1 _ _ _ h hP hD hS (lv_sub hl [1, 2, 3, 0] rfl)
def x_Fifo_hasRoomFor_18 (z0 : ST) (x1 : Int32) : OR := if 4 < ((z0.1 10) + x1) then (gib 0 (some (0, z0))) else (gib 1 (some (1, z0)))
set_option maxRecDepth 100000 in
set_option maxHeartbeats 4000000 in
theorem c_x_Fifo_hasRoomFor_18 (l : Launch) (dC : Nat → ClassId) (dI : Nat → Nat → Nat) (cI cZ : ClassId) (ad : Nat → Nat) (z0 : ST) (x1 : Int32) (R : Int32 × ST) (h : x_Fifo_hasRoomFor_18 z0 x1 = some R) : qMi l y_Fifo_hasRoomFor w_Fifo_hasRoomFor 0 0 (KX dC dI cI cZ) (dC, dI) q_cl (wX cI cZ ad) [.ref (ad 18), .int x1] z0 R := by
  intro sz
  refine Met.ofW (cc := b_Fifo_hasRoomFor) (maxL := 2) (ret := (some .boolean)) (by decide) rfl ?_
  intro p e s m args below meth c s₁ B hml hv
  obtain ⟨rfl, hsz, hP, hKK, hD0⟩ := hv
  have hx := B.exec
  have hb := B.bytes
  have hr := B.returns
  have hts : ∀ w ∈ q_big, w.before _ s = true := fun w h => atoms_spec (ws := w_Fifo_hasRoomFor) B.pre w (List.mem_cons_of_mem _ h)
  have hown : s.vm.findClass "SlippedStreams$Fifo" = some m.cls := findClass_of_methodNamed B.named
  have hlocks := B.notSynchronized
  subst hsz
  have hD := hD0.self (sz := s.heap.size)
  generalize hAe : va_A (wX cI cZ ad z0) s.heap.size = A at hD ⊢
  have hA : ∀ q : Nat, s.heap.size ≤ q → A q := fun q h => by rw [← hAe]; exact Or.inr h
  have hS : va_S A s.heap s.heap [] := va_S.rf
  have hK := hKK.1
  have hl := lv_entry ([.ref (ad 18), .int x1]) (n := 2) (Nat.le_of_ble_eq_true rfl)
  rw [lg_entry_eq]
  generalize (lg_sl ([.ref (ad 18), .int x1]) ++ List.replicate (2 - (lg_sl ([.ref (ad 18), .int x1])).length) Slot.unset).toArray = ls at hl ⊢
  have hl : lv_has ls 2 [(0, .ref (ad 18)), (1, .int x1)] := hl
  unfold x_Fifo_hasRoomFor_18 at h
  refine lv_aload_n hx hb d_Fifo_hasRoomFor_0 rfl (lv_at hl 0 rfl) ?_
  refine xg_18_size hx hb hts hin_Fifo hown hK hP (hts _ k_161) (fun _ h9 => h9) d_Fifo_hasRoomFor_1 ?_
  refine lv_iload_n hx hb d_Fifo_hasRoomFor_4 rfl (lv_at hl 1 rfl) ?_
  refine lv_iadd hx hb d_Fifo_hasRoomFor_5 ?_
  refine lv_aload_n hx hb d_Fifo_hasRoomFor_6 rfl (lv_at hl 0 rfl) ?_
  refine xg_18_things hx hb hts hin_Fifo hown hK hP (hts _ k_159) (fun _ h9 => h9) d_Fifo_hasRoomFor_7 ?_
  refine va_alen (v := 4) hx hb hK hP 23 0 rfl rfl rfl d_Fifo_hasRoomFor_10 ?_
  refine lv_icmp_gt (tgt := 18) hx hb d_Fifo_hasRoomFor_11 (by decide) (fun hc => ?_) (fun hc => ?_)
  · replace h := if_t hc h
    refine lv_iconst (v := 0) hx hb d_Fifo_hasRoomFor_18 (by decide) ?_
    exact q_zret hx hb hr hlocks h hP hD hS d_Fifo_hasRoomFor_19
  · replace h := if_f hc h
    refine lv_iconst (v := 1) hx hb d_Fifo_hasRoomFor_14 (by decide) ?_
    refine lv_goto (tgt := 19) hx hb d_Fifo_hasRoomFor_15 (by decide) ?_
    exact q_zret hx hb hr hlocks h hP hD hS d_Fifo_hasRoomFor_19
def x_ValueStream_doOwn_31_137 (z0 : ST) (y1 y2 : Int32) : OR := obn (x_Stream_leaveFor_31 z0 (y1 + 1)) (fun r1 z1 => gib r1 (some (r1, z1)))
def x_ValueStream_doOwn_31_51 (z0 : ST) (y1 y2 : Int32) : OR := gin y1 24 (obn (x_ValueStream_receive_31 z0 (z0.2 5 y1.toNatClampNeg)) (fun r2 z2 => gin y1 24 (obn (x_ValueStream_receive_31 z2 (z2.2 6 y1.toNatClampNeg)) (fun r3 z3 => if y2 = 0 then (gin y1 24 (if (z3.2 0 y1.toNatClampNeg) = 8 then (gin y1 24 (gin (z3.2 1 y1.toNatClampNeg) 8 (obn (x_Written_write_33 z3 (z3.2 21 (z3.2 1 y1.toNatClampNeg).toNatClampNeg)) (fun r5 z5 => x_ValueStream_doOwn_31_137 z5 y1 y2)))) else (obn (x_Run_compute_31 z3 y1) (fun r4 z4 => x_ValueStream_doOwn_31_137 z4 y1 y2)))) else (obn (x_Stream_sendOutcome_31_18 z3 y1) (fun r6 z6 => gib r6 (some (r6, z6))))))))
def x_ValueStream_doOwn_31 (z0 : ST) (x1 : Int32) : OR := obn (x_Program_isBranch_1 z0 x1) (fun r7 z7 => gin x1 24 (if (z7.1 12) < (z7.2 7 x1.toNatClampNeg) then (gib 0 (some (0, z7))) else (if r7 = 0 then (x_ValueStream_doOwn_31_51 z7 x1 r7) else (obn (x_Fifo_hasRoomFor_18 z7 1) (fun r8 z8 => if r8 = 0 then (gib 0 (some (0, z8))) else (x_ValueStream_doOwn_31_51 z8 x1 r7))))))
set_option maxRecDepth 100000 in
set_option maxHeartbeats 4000000 in
theorem c_x_ValueStream_doOwn_31 (l : Launch) (dC : Nat → ClassId) (dI : Nat → Nat → Nat) (cI cZ : ClassId) (ad : Nat → Nat) (z0 : ST) (x1 : Int32) (R : Int32 × ST) (h : x_ValueStream_doOwn_31 z0 x1 = some R) : qMi l y_ValueStream_doOwn w_ValueStream_doOwn 3 64 (KX dC dI cI cZ) (dC, dI) q_cl (wX cI cZ ad) [.ref (ad 31), .int x1] z0 R := by
  intro sz
  refine Met.ofW (cc := b_ValueStream_doOwn) (maxL := 3) (ret := (some .boolean)) (by decide) rfl ?_
  intro p e s m args below meth c s₁ B hml hv
  obtain ⟨rfl, hsz, hP, hKK, hD0⟩ := hv
  have hx := B.exec
  have hb := B.bytes
  have hr := B.returns
  have hts : ∀ w ∈ q_big, w.before _ s = true := fun w h => atoms_spec (ws := w_ValueStream_doOwn) B.pre w (List.mem_cons_of_mem _ h)
  have hown : s.vm.findClass "SlippedStreams$ValueStream" = some m.cls := findClass_of_methodNamed B.named
  have hlocks := B.notSynchronized
  subst hsz
  have hD := hD0.self (sz := s.heap.size)
  generalize hAe : va_A (wX cI cZ ad z0) s.heap.size = A at hD ⊢
  have hA : ∀ q : Nat, s.heap.size ≤ q → A q := fun q h => by rw [← hAe]; exact Or.inr h
  have hS : va_S A s.heap s.heap [] := va_S.rf
  have hK := hKK.1
  have hl := lv_entry ([.ref (ad 31), .int x1]) (n := 3) (Nat.le_of_ble_eq_true rfl)
  rw [lg_entry_eq]
  generalize (lg_sl ([.ref (ad 31), .int x1]) ++ List.replicate (3 - (lg_sl ([.ref (ad 31), .int x1])).length) Slot.unset).toArray = ls at hl ⊢
  have hl : lv_has ls 3 [(0, .ref (ad 31)), (1, .int x1)] := hl
  have jp_137 : ∀ (z0 : ST) (y1 y2 : Int32) (H : Heap) (locs : List Loc) (ls : Array Slot), x_ValueStream_doOwn_31_137 z0 y1 y2 = some R → va_P (dC, dI) q_cl (wX cI cZ ad z0) H → va_D A (wX cI cZ ad z0) → va_S A s.heap H locs → lv_has ls 3 [(0, .ref (ad 31)), (1, .int y1), (2, .int y2)] → qWi p l e w_ValueStream_doOwn 3 64 s m [.ref (ad 31), .int x1] below meth c (dC, dI) q_cl (wX cI cZ ad) A R H locs (F0 m 137 ls []) := by
    intro z0 y1 y2 H locs ls h hP hD hS hl
    unfold x_ValueStream_doOwn_31_137 at h
    refine lv_aload_n hx hb d_ValueStream_doOwn_137 rfl (lv_at hl 0 rfl) ?_
    refine lv_iload_n hx hb d_ValueStream_doOwn_138 rfl (lv_at hl 1 rfl) ?_
    refine lv_iconst (v := 1) hx hb d_ValueStream_doOwn_139 (by decide) ?_
    refine lv_iadd hx hb d_ValueStream_doOwn_140 ?_
    obtain ⟨r1, z1, hc1, h⟩ := obn_e h
    refine q_goi (va_runU (As := [.int (y1 + 1)]) (rest := []) ⟨hx, hb, hml, hown, hts⟩ (c_x_Stream_leaveFor_31 l dC dI cI cZ ad z0 (y1 + 1) _ hc1 _) (va_cwU 1 hts (q_goodL _ (q_l5 k_697 k_698 k_699 k_567 k_59) k_568) rfl rfl rfl rfl (by decide +kernel) ⟨Nat.le_of_ble_eq_true rfl, Nat.le_of_ble_eq_true rfl⟩) (q_preV qok hKK hP hD (va_recv (ci := 6) (q0 := 31) hK hP rfl rfl)) rfl rfl hl.1 rfl (lv_room (Nat.le_of_ble_eq_true rfl)) d_ValueStream_doOwn_141 ⟨Nat.le_refl _, Nat.le_refl _⟩) hD hS hA (fun H locs hP hD hS => ?_)
    exact q_zret hx hb hr hlocks h hP hD hS d_ValueStream_doOwn_144
  have jp_51 : ∀ (z0 : ST) (y1 y2 : Int32) (H : Heap) (locs : List Loc) (ls : Array Slot), x_ValueStream_doOwn_31_51 z0 y1 y2 = some R → va_P (dC, dI) q_cl (wX cI cZ ad z0) H → va_D A (wX cI cZ ad z0) → va_S A s.heap H locs → lv_has ls 3 [(0, .ref (ad 31)), (1, .int y1), (2, .int y2)] → qWi p l e w_ValueStream_doOwn 3 64 s m [.ref (ad 31), .int x1] below meth c (dC, dI) q_cl (wX cI cZ ad) A R H locs (F0 m 51 ls []) := by
    intro z0 y1 y2 H locs ls h hP hD hS hl
    unfold x_ValueStream_doOwn_31_51 at h
    refine lv_aload_n hx hb d_ValueStream_doOwn_51 rfl (lv_at hl 0 rfl) ?_
    refine lv_aload_n hx hb d_ValueStream_doOwn_52 rfl (lv_at hl 0 rfl) ?_
    refine xg_31_program hx hb hts hin_ValueStream hown hK hP (hts _ k_268) (fun x9 h9 => u_same (hts _ k_269) x9 h9) d_ValueStream_doOwn_53 ?_
    refine xg_1_firstPassed hx hb hts hin_Program hown hK hP (hts _ k_102) (fun _ h9 => h9) d_ValueStream_doOwn_56 ?_
    refine lv_iload_n hx hb d_ValueStream_doOwn_59 rfl (lv_at hl 1 rfl) ?_
    obtain ⟨hi, h⟩ := gin_e h
    refine xl_5 hx hb hK hP hi d_ValueStream_doOwn_60 ?_
    obtain ⟨r2, z2, hc2, h⟩ := obn_e h
    refine q_gov (va_runV (As := [.int (z0.2 5 y1.toNatClampNeg)]) (rest := []) ⟨hx, hb, hml, hown, hts⟩ (c_x_ValueStream_receive_31 l dC dI cI cZ ad z0 (z0.2 5 y1.toNatClampNeg) _ hc2 _) (cwV 1 hts (q_goodL _ (q_l4 k_706 k_708 k_24 k_61) k_709) rfl rfl rfl (by decide +kernel) ⟨Nat.le_of_ble_eq_true rfl, Nat.le_of_ble_eq_true rfl⟩) (q_preV qok hKK hP hD (va_recv (ci := 6) (q0 := 31) hK hP rfl rfl)) rfl rfl hl.1 rfl (lv_room (Nat.le_of_ble_eq_true rfl)) d_ValueStream_doOwn_61 ⟨Nat.le_refl _, Nat.le_refl _⟩) hD hS hA (fun H locs hP hD hS => ?_)
    refine lv_aload_n hx hb d_ValueStream_doOwn_64 rfl (lv_at hl 0 rfl) ?_
    refine lv_aload_n hx hb d_ValueStream_doOwn_65 rfl (lv_at hl 0 rfl) ?_
    refine xg_31_program hx hb hts hin_ValueStream hown hK hP (hts _ k_268) (fun x9 h9 => u_same (hts _ k_269) x9 h9) d_ValueStream_doOwn_66 ?_
    refine xg_1_secondPassed hx hb hts hin_Program hown hK hP (hts _ k_105) (fun _ h9 => h9) d_ValueStream_doOwn_69 ?_
    refine lv_iload_n hx hb d_ValueStream_doOwn_72 rfl (lv_at hl 1 rfl) ?_
    obtain ⟨hi, h⟩ := gin_e h
    refine xl_6 hx hb hK hP hi d_ValueStream_doOwn_73 ?_
    obtain ⟨r3, z3, hc3, h⟩ := obn_e h
    refine q_gov (va_runV (As := [.int (z2.2 6 y1.toNatClampNeg)]) (rest := []) ⟨hx, hb, hml, hown, hts⟩ (c_x_ValueStream_receive_31 l dC dI cI cZ ad z2 (z2.2 6 y1.toNatClampNeg) _ hc3 _) (cwV 1 hts (q_goodL _ (q_l4 k_706 k_708 k_24 k_61) k_709) rfl rfl rfl (by decide +kernel) ⟨Nat.le_of_ble_eq_true rfl, Nat.le_of_ble_eq_true rfl⟩) (q_preV qok hKK hP hD (va_recv (ci := 6) (q0 := 31) hK hP rfl rfl)) rfl rfl hl.1 rfl (lv_room (Nat.le_of_ble_eq_true rfl)) d_ValueStream_doOwn_74 ⟨Nat.le_refl _, Nat.le_refl _⟩) hD hS hA (fun H locs hP hD hS => ?_)
    refine lv_iload_n hx hb d_ValueStream_doOwn_77 rfl (lv_at hl 2 rfl) ?_
    refine lv_if_eq (tgt := 94) hx hb d_ValueStream_doOwn_78 (by decide) (fun hc => ?_) (fun hc => ?_)
    · replace h := if_t hc h
      refine lv_aload_n hx hb d_ValueStream_doOwn_94 rfl (lv_at hl 0 rfl) ?_
      refine xg_31_program hx hb hts hin_ValueStream hown hK hP (hts _ k_268) (fun x9 h9 => u_same (hts _ k_269) x9 h9) d_ValueStream_doOwn_95 ?_
      refine xg_1_kinds hx hb hts hin_Program hown hK hP (hts _ k_84) (fun _ h9 => h9) d_ValueStream_doOwn_98 ?_
      refine lv_iload_n hx hb d_ValueStream_doOwn_101 rfl (lv_at hl 1 rfl) ?_
      obtain ⟨hi, h⟩ := gin_e h
      refine xl_0 hx hb hK hP hi d_ValueStream_doOwn_102 ?_
      refine lv_bipush (v := 8) hx hb d_ValueStream_doOwn_103 (by decide) ?_
      refine lv_icmp_ne (tgt := 132) hx hb d_ValueStream_doOwn_105 (by decide) (fun hc => ?_) (fun hc => ?_)
      · replace h := if_f hc h
        refine lv_aload_n hx hb d_ValueStream_doOwn_132 rfl (lv_at hl 0 rfl) ?_
        refine lv_iload_n hx hb d_ValueStream_doOwn_133 rfl (lv_at hl 1 rfl) ?_
        obtain ⟨r4, z4, hc4, h⟩ := obn_e h
        refine q_gov (va_runU (As := [.int y1]) (rest := []) ⟨hx, hb, hml, hown, hts⟩ (c_x_Run_compute_31 l dC dI cI cZ ad z3 y1 _ hc4 _) (va_cwU 1 hts (q_goodL _ (q_l5 k_714 k_715 k_716 k_628 k_58) k_629) rfl rfl rfl rfl (by decide +kernel) ⟨Nat.le_of_ble_eq_true rfl, Nat.le_of_ble_eq_true rfl⟩) (q_preV qok hKK hP hD (va_recv (ci := 6) (q0 := 31) hK hP rfl rfl)) rfl rfl hl.1 rfl (lv_room (Nat.le_of_ble_eq_true rfl)) d_ValueStream_doOwn_134 ⟨Nat.le_refl _, Nat.le_refl _⟩) hD hS hA (fun H locs hP hD hS => ?_)
        exact jp_137 z4 y1 y2 _ _ _ h hP hD hS (lv_sub hl [0, 1, 2] rfl)
      · replace h := if_t hc h
        refine lv_aload_n hx hb d_ValueStream_doOwn_108 rfl (lv_at hl 0 rfl) ?_
        refine xg_31_written hx hb hts hin_ValueStream hown hK hP (hts _ k_330) (fun _ h9 => h9) d_ValueStream_doOwn_109 ?_
        refine lv_aload_n hx hb d_ValueStream_doOwn_112 rfl (lv_at hl 0 rfl) ?_
        refine xg_31_registers hx hb hts hin_ValueStream hown hK hP (hts _ k_279) (fun x9 h9 => u_same (hts _ k_280) x9 h9) d_ValueStream_doOwn_113 ?_
        refine lv_aload_n hx hb d_ValueStream_doOwn_116 rfl (lv_at hl 0 rfl) ?_
        refine xg_31_program hx hb hts hin_ValueStream hown hK hP (hts _ k_268) (fun x9 h9 => u_same (hts _ k_269) x9 h9) d_ValueStream_doOwn_117 ?_
        refine xg_1_as hx hb hts hin_Program hown hK hP (hts _ k_90) (fun _ h9 => h9) d_ValueStream_doOwn_120 ?_
        refine lv_iload_n hx hb d_ValueStream_doOwn_123 rfl (lv_at hl 1 rfl) ?_
        obtain ⟨hi, h⟩ := gin_e h
        refine xl_1 hx hb hK hP hi d_ValueStream_doOwn_124 ?_
        obtain ⟨hi, h⟩ := gin_e h
        refine xl_21 hx hb hK hP hi d_ValueStream_doOwn_125 ?_
        obtain ⟨r5, z5, hc5, h⟩ := obn_e h
        refine q_gov (va_runV (As := [.int (z3.2 21 (z3.2 1 y1.toNatClampNeg).toNatClampNeg)]) (rest := []) ⟨hx, hb, hml, hown, hts⟩ (c_x_Written_write_33 l dC dI cI cZ ad z3 (z3.2 21 (z3.2 1 y1.toNatClampNeg).toNatClampNeg) _ hc5 _) (cwV 1 hts (q_goodL _ (q_l4 k_713 k_680 k_681 k_62) k_682) rfl rfl rfl (by decide +kernel) ⟨Nat.le_of_ble_eq_true rfl, Nat.le_of_ble_eq_true rfl⟩) (q_preV qok hKK hP hD (va_recv (ci := 7) (q0 := 33) hK hP rfl rfl)) rfl rfl hl.1 rfl (lv_room (Nat.le_of_ble_eq_true rfl)) d_ValueStream_doOwn_126 ⟨Nat.le_refl _, Nat.le_refl _⟩) hD hS hA (fun H locs hP hD hS => ?_)
        refine lv_goto (tgt := 137) hx hb d_ValueStream_doOwn_129 (by decide) ?_
        exact jp_137 z5 y1 y2 _ _ _ h hP hD hS (lv_sub hl [0, 1, 2] rfl)
    · replace h := if_f hc h
      refine lv_aload_n hx hb d_ValueStream_doOwn_81 rfl (lv_at hl 0 rfl) ?_
      refine lv_iload_n hx hb d_ValueStream_doOwn_82 rfl (lv_at hl 1 rfl) ?_
      refine lv_aload_n hx hb d_ValueStream_doOwn_83 rfl (lv_at hl 0 rfl) ?_
      refine xg_31_link hx hb hts hin_ValueStream hown hK hP (hts _ k_255) (fun x9 h9 => u_same (hts _ k_256) x9 h9) d_ValueStream_doOwn_84 ?_
      refine xg_13_addressOutcomes hx hb hts hin_Link hown hK hP (hts _ k_215) (fun _ h9 => h9) d_ValueStream_doOwn_87 ?_
      obtain ⟨r6, z6, hc6, h⟩ := obn_e h
      refine q_goi (va_runU (As := [.int y1, .ref (ad 18)]) (rest := []) ⟨hx, hb, hml, hown, hts⟩ (c_x_Stream_sendOutcome_31_18 l dC dI cI cZ ad z3 y1 _ hc6 _) (va_cwU 2 hts (q_goodL _ (q_l5 k_710 k_711 k_712 k_603 k_59) k_604) rfl rfl rfl rfl (by decide +kernel) ⟨Nat.le_of_ble_eq_true rfl, Nat.le_of_ble_eq_true rfl⟩) (q_preV qok hKK hP hD (va_recv (ci := 6) (q0 := 31) hK hP rfl rfl)) rfl rfl hl.1 rfl (lv_room (Nat.le_of_ble_eq_true rfl)) d_ValueStream_doOwn_90 ⟨Nat.le_refl _, Nat.le_refl _⟩) hD hS hA (fun H locs hP hD hS => ?_)
      exact q_zret hx hb hr hlocks h hP hD hS d_ValueStream_doOwn_93
  unfold x_ValueStream_doOwn_31 at h
  refine lv_aload_n hx hb d_ValueStream_doOwn_0 rfl (lv_at hl 0 rfl) ?_
  refine xg_31_program hx hb hts hin_ValueStream hown hK hP (hts _ k_268) (fun x9 h9 => u_same (hts _ k_269) x9 h9) d_ValueStream_doOwn_1 ?_
  refine lv_iload_n hx hb d_ValueStream_doOwn_4 rfl (lv_at hl 1 rfl) ?_
  obtain ⟨r7, z7, hc7, h⟩ := obn_e h
  refine q_goi (va_runV (As := [.int x1]) (rest := []) ⟨hx, hb, hml, hown, hts⟩ (c_x_Program_isBranch_1 l dC dI cI cZ ad z0 x1 _ hc7 _) (cwV 1 hts (q_goodL _ (q_l4 k_704 k_418 k_419 k_54) k_420) rfl rfl rfl (by decide +kernel) ⟨Nat.le_of_ble_eq_true rfl, Nat.le_of_ble_eq_true rfl⟩) (q_preV qok hKK hP hD (va_recv (ci := 1) (q0 := 1) hK hP rfl rfl)) rfl rfl hl.1 rfl (lv_room (Nat.le_of_ble_eq_true rfl)) d_ValueStream_doOwn_5 ⟨Nat.le_refl _, Nat.le_refl _⟩) hD hS hA (fun H locs hP hD hS => ?_)
  refine lv_istore_n (lv' := [(2, .int r7), (0, .ref (ad 31)), (1, .int x1)]) hx hb d_ValueStream_doOwn_8 rfl hl (by decide) rfl (fun ls hl => ?_)
  refine lv_aload_n hx hb d_ValueStream_doOwn_9 rfl (lv_at hl 1 rfl) ?_
  refine xg_31_link hx hb hts hin_ValueStream hown hK hP (hts _ k_255) (fun x9 h9 => u_same (hts _ k_256) x9 h9) d_ValueStream_doOwn_10 ?_
  refine xg_13_passed hx hb hts hin_Link hown hK hP (hts _ k_219) (fun _ h9 => h9) d_ValueStream_doOwn_13 ?_
  refine xg_19_size hx hb hts hin_Fifo hown hK hP (hts _ k_162) (fun _ h9 => h9) d_ValueStream_doOwn_16 ?_
  refine lv_aload_n hx hb d_ValueStream_doOwn_19 rfl (lv_at hl 1 rfl) ?_
  refine xg_31_program hx hb hts hin_ValueStream hown hK hP (hts _ k_268) (fun x9 h9 => u_same (hts _ k_269) x9 h9) d_ValueStream_doOwn_20 ?_
  refine xg_1_passedCounts hx hb hts hin_Program hown hK hP (hts _ k_109) (fun _ h9 => h9) d_ValueStream_doOwn_23 ?_
  refine lv_iload_n hx hb d_ValueStream_doOwn_26 rfl (lv_at hl 2 rfl) ?_
  obtain ⟨hi, h⟩ := gin_e h
  refine xl_7 hx hb hK hP hi d_ValueStream_doOwn_27 ?_
  refine lv_icmp_lt (tgt := 49) hx hb d_ValueStream_doOwn_28 (by decide) (fun hc => ?_) (fun hc => ?_)
  · replace h := if_t hc h
    refine lv_iconst (v := 0) hx hb d_ValueStream_doOwn_49 (by decide) ?_
    exact q_zret hx hb hr hlocks h hP hD hS d_ValueStream_doOwn_50
  · replace h := if_f hc h
    refine lv_iload_n hx hb d_ValueStream_doOwn_31 rfl (lv_at hl 0 rfl) ?_
    refine lv_if_eq (tgt := 51) hx hb d_ValueStream_doOwn_32 (by decide) (fun hc => ?_) (fun hc => ?_)
    · replace h := if_t hc h
      exact jp_51 z7 x1 r7 _ _ _ h hP hD hS (lv_sub hl [1, 2, 0] rfl)
    · replace h := if_f hc h
      refine lv_aload_n hx hb d_ValueStream_doOwn_35 rfl (lv_at hl 1 rfl) ?_
      refine xg_31_link hx hb hts hin_ValueStream hown hK hP (hts _ k_255) (fun x9 h9 => u_same (hts _ k_256) x9 h9) d_ValueStream_doOwn_36 ?_
      refine xg_13_addressOutcomes hx hb hts hin_Link hown hK hP (hts _ k_215) (fun _ h9 => h9) d_ValueStream_doOwn_39 ?_
      refine lv_iconst (v := 1) hx hb d_ValueStream_doOwn_42 (by decide) ?_
      obtain ⟨r8, z8, hc8, h⟩ := obn_e h
      refine q_goi (va_runV (As := [.int 1]) (rest := []) ⟨hx, hb, hml, hown, hts⟩ (c_x_Fifo_hasRoomFor_18 l dC dI cI cZ ad z7 1 _ hc8 _) (cwV 1 hts (q_goodL _ (q_l4 k_705 k_596 k_597 k_56) k_598) rfl rfl rfl (by decide +kernel) ⟨Nat.le_of_ble_eq_true rfl, Nat.le_of_ble_eq_true rfl⟩) (q_preV qok hKK hP hD (va_recv (ci := 3) (q0 := 18) hK hP rfl rfl)) rfl rfl hl.1 rfl (lv_room (Nat.le_of_ble_eq_true rfl)) d_ValueStream_doOwn_43 ⟨Nat.le_refl _, Nat.le_refl _⟩) hD hS hA (fun H locs hP hD hS => ?_)
      refine lv_if_ne (tgt := 51) hx hb d_ValueStream_doOwn_46 (by decide) (fun hc => ?_) (fun hc => ?_)
      · replace h := if_f hc h
        exact jp_51 z8 x1 r7 _ _ _ h hP hD hS (lv_sub hl [1, 2, 0] rfl)
      · replace h := if_t hc h
        refine lv_iconst (v := 0) hx hb d_ValueStream_doOwn_49 (by decide) ?_
        exact q_zret hx hb hr hlocks h hP hD hS d_ValueStream_doOwn_50
