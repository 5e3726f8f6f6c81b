def x_Written_empty_38 (z0 : ST) : OR := bnd (stI z0 22 0) (fun z1 => some (0, z1))
set_option maxRecDepth 100000 in
set_option maxHeartbeats 4000000 in
theorem c_x_Written_empty_38 (l : Launch) (dC : Nat → ClassId) (dI : Nat → Nat → Nat) (cI cZ : ClassId) (ad : Nat → Nat) (z0 : ST) (R : Int32 × ST) (h : x_Written_empty_38 z0 = some R) : qMv l y_Written_empty w_Written_empty 0 0 (KX dC dI cI cZ) (dC, dI) q_cl (wX cI cZ ad) [.ref (ad 38)] z0 R := by
  intro sz
  refine Met.ofW (cc := b_Written_empty) (maxL := 1) (ret := none) (by decide) rfl ?_
  intro p e s m args below meth c s₁ B hml hv
  obtain ⟨rfl, hsz, hP, hKK, hD0⟩ := hv
  have hx := B.exec
  have hb := B.bytes
  have hr := B.returns
  have hts : ∀ w ∈ q_big, w.before _ s = true := fun w h => atoms_spec (ws := w_Written_empty) B.pre w (List.mem_cons_of_mem _ h)
  have hown : s.vm.findClass "SlippedStreams$Written" = some m.cls := findClass_of_methodNamed B.named
  have hlocks := B.notSynchronized
  subst hsz
  have hD := hD0.self (sz := s.heap.size)
  generalize hAe : va_A (wX cI cZ ad z0) s.heap.size = A at hD ⊢
  have hA : ∀ q : Nat, s.heap.size ≤ q → A q := fun q h => by rw [← hAe]; exact Or.inr h
  have hS : va_S A s.heap s.heap [] := va_S.rf
  have hK := hKK.1
  have hl := lv_entry ([.ref (ad 38)]) (n := 1) (Nat.le_of_ble_eq_true rfl)
  rw [lg_entry_eq]
  generalize (lg_sl ([.ref (ad 38)]) ++ List.replicate (1 - (lg_sl ([.ref (ad 38)])).length) Slot.unset).toArray = ls at hl ⊢
  have hl : lv_has ls 1 [(0, .ref (ad 38))] := hl
  unfold x_Written_empty_38 at h
  refine lv_aload_n hx hb d_Written_empty_0 rfl (lv_at hl 0 rfl) ?_
  refine lv_iconst (v := 0) hx hb d_Written_empty_1 (by decide) ?_
  obtain ⟨z1, e1, h⟩ := bnd_e h
  refine xp_38_count hx hb hts hin_Written hown hK hP hD hS (hts _ k_323) (fun _ h9 => h9) d_Written_empty_2 e1 (fun H locs hP hD hS => ?_)
  exact q_vret hx hb hr hlocks h hP hD hS d_Written_empty_5
def x_PlainRun_begin_35_12 (z0 : ST) : OR := bnd (stA z0 24 (va_cpy (z0.2 10) (z0.2 24) (0 : Int32).toNatClampNeg (0 : Int32).toNatClampNeg (32 : Int32).toNatClampNeg)) (fun z1 => obn (x_Arrays_fill_36 z1 0) (fun r2 z2 => obn (x_Written_empty_38 z2) (fun r3 z3 => bnd (stI z3 21 0) (fun z4 => some (0, z4)))))
set_option maxRecDepth 100000 in
set_option maxHeartbeats 4000000 in
theorem c_x_PlainRun_begin_35_12 (l : Launch) (dC : Nat → ClassId) (dI : Nat → Nat → Nat) (cI cZ : ClassId) (ad : Nat → Nat) (z0 : ST) (R : Int32 × ST) (h : x_PlainRun_begin_35_12 z0 = some R) : qMv l y_PlainRun_begin w_PlainRun_begin 1 40 (KX dC dI cI cZ) (dC, dI) q_cl (wX cI cZ ad) [.ref (ad 35), .ref (ad 12)] z0 R := by
  intro sz
  refine Met.ofW (cc := b_PlainRun_begin) (maxL := 2) (ret := none) (by decide) rfl ?_
  intro p e s m args below meth c s₁ B hml hv
  obtain ⟨rfl, hsz, hP, hKK, hD0⟩ := hv
  have hx := B.exec
  have hb := B.bytes
  have hr := B.returns
  have hts : ∀ w ∈ q_big, w.before _ s = true := fun w h => atoms_spec (ws := w_PlainRun_begin) B.pre w (List.mem_cons_of_mem _ h)
  have hown : s.vm.findClass "SlippedStreams$PlainRun" = some m.cls := findClass_of_methodNamed B.named
  have hlocks := B.notSynchronized
  subst hsz
  have hD := hD0.self (sz := s.heap.size)
  generalize hAe : va_A (wX cI cZ ad z0) s.heap.size = A at hD ⊢
  have hA : ∀ q : Nat, s.heap.size ≤ q → A q := fun q h => by rw [← hAe]; exact Or.inr h
  have hS : va_S A s.heap s.heap [] := va_S.rf
  have hK := hKK.1
  have hl := lv_entry ([.ref (ad 35), .ref (ad 12)]) (n := 2) (Nat.le_of_ble_eq_true rfl)
  rw [lg_entry_eq]
  generalize (lg_sl ([.ref (ad 35), .ref (ad 12)]) ++ List.replicate (2 - (lg_sl ([.ref (ad 35), .ref (ad 12)])).length) Slot.unset).toArray = ls at hl ⊢
  have hl : lv_has ls 2 [(0, .ref (ad 35)), (1, .ref (ad 12))] := hl
  unfold x_PlainRun_begin_35_12 at h
  refine lv_aload_n hx hb d_PlainRun_begin_0 rfl (lv_at hl 1 rfl) ?_
  refine lv_iconst (v := 0) hx hb d_PlainRun_begin_1 (by decide) ?_
  refine lv_aload_n hx hb d_PlainRun_begin_2 rfl (lv_at hl 0 rfl) ?_
  refine xg_35_memory hx hb hts hin_PlainRun hown hK hP (hts _ k_349) (fun _ h9 => h9) d_PlainRun_begin_3 ?_
  refine lv_iconst (v := 0) hx hb d_PlainRun_begin_6 (by decide) ?_
  refine lv_bipush (v := 32) hx hb d_PlainRun_begin_7 (by decide) ?_
  obtain ⟨z1, e1, h⟩ := bnd_e h
  refine va_copyi (ty := .int) hx hb (hml.trans hl.1.symm) hown (hts _ k_483) (hts _ k_447) (hts _ k_446) (hts _ k_65) hK hP hD hS 12 37 0 0 rfl rfl rfl rfl rfl (by decide) (by decide) (by decide) (by decide) (by decide) (fun _ _ => rfl) (Nat.le_of_ble_eq_true rfl) (Nat.le_of_ble_eq_true rfl) d_PlainRun_begin_9 (fun H locs hP hD hS => ?_)
  have hP : va_P (dC, dI) q_cl (wX cI cZ ad z1) H := by rw [e1]; exact hP
  have hD : va_D A (wX cI cZ ad z1) := by rw [e1]; exact hD
  refine lv_aload_n hx hb d_PlainRun_begin_12 rfl (lv_at hl 0 rfl) ?_
  refine xg_35_registers hx hb hts hin_PlainRun hown hK hP (hts _ k_277) (fun x9 h9 => u_same (hts _ k_278) x9 h9) d_PlainRun_begin_13 ?_
  refine lv_iconst (v := 0) hx hb d_PlainRun_begin_16 (by decide) ?_
  obtain ⟨r2, z2, hc2, h⟩ := obn_e h
  refine q_gov (va_runS (As := [.ref (ad 36), .int 0]) (rest := []) ⟨hx, hb, hml, hown, hts⟩ (c_x_Arrays_fill_36 l dC dI cI cZ ad z1 0 _ hc2 _) (va_cwS 2 hts (q_goodL _ (q_l3 k_484 k_464 k_66) k_465) rfl rfl rfl (by decide +kernel) ⟨Nat.le_of_ble_eq_true rfl, Nat.le_of_ble_eq_true rfl⟩) (q_preS qok hKK hP hD) rfl rfl hl.1 rfl (lv_room (Nat.le_of_ble_eq_true rfl)) d_PlainRun_begin_17 ⟨Nat.le_refl _, Nat.le_refl _⟩) hD hS hA (fun H locs hP hD hS => ?_)
  refine lv_aload_n hx hb d_PlainRun_begin_20 rfl (lv_at hl 0 rfl) ?_
  refine xg_35_written hx hb hts hin_PlainRun hown hK hP (hts _ k_351) (fun _ h9 => h9) d_PlainRun_begin_21 ?_
  obtain ⟨r3, z3, hc3, h⟩ := obn_e h
  refine q_gov (va_runV (As := []) (rest := []) ⟨hx, hb, hml, hown, hts⟩ (c_x_Written_empty_38 l dC dI cI cZ ad z2 _ hc3 _) (cwV 0 hts (q_goodL _ (q_l4 k_485 k_475 k_476 k_62) k_477) rfl rfl rfl (by decide +kernel) ⟨Nat.le_of_ble_eq_true rfl, Nat.le_of_ble_eq_true rfl⟩) (q_preV qok hKK hP hD (va_recv (ci := 7) (q0 := 38) hK hP rfl rfl)) rfl rfl hl.1 rfl (lv_room (Nat.le_of_ble_eq_true rfl)) d_PlainRun_begin_24 ⟨Nat.le_refl _, Nat.le_refl _⟩) hD hS hA (fun H locs hP hD hS => ?_)
  refine lv_aload_n hx hb d_PlainRun_begin_27 rfl (lv_at hl 0 rfl) ?_
  refine lv_iconst (v := 0) hx hb d_PlainRun_begin_28 (by decide) ?_
  obtain ⟨z4, e4, h⟩ := bnd_e h
  refine xp_35_at hx hb hts hin_PlainRun hown hK hP hD hS (hts _ k_288) (fun x9 h9 => u_same (hts _ k_289) x9 h9) d_PlainRun_begin_29 e4 (fun H locs hP hD hS => ?_)
  exact q_vret hx hb hr hlocks h hP hD hS d_PlainRun_begin_32
def x_beginAnew (z0 : ST) : OR := obn (x_Link_begin_13_12 z0) (fun r1 z1 => obn (x_AddressStream_begin_29 z1) (fun r2 z2 => obn (x_ValueStream_begin_31 z2) (fun r3 z3 => obn (x_PlainRun_begin_35_12 z3) (fun r4 z4 => bnd (stI z4 0 0) (fun z5 => some (0, z5))))))
set_option maxRecDepth 100000 in
set_option maxHeartbeats 4000000 in
theorem c_x_beginAnew (l : Launch) (dC : Nat → ClassId) (dI : Nat → Nat → Nat) (cI cZ : ClassId) (ad : Nat → Nat) (z0 : ST) (R : Int32 × ST) (h : x_beginAnew z0 = some R) : qMv l y_SlippedStreams_beginAnew w_SlippedStreams_beginAnew 3 63 (KX dC dI cI cZ) (dC, dI) q_cl (wX cI cZ ad) [.ref (ad 0)] z0 R := by
  intro sz
  refine Met.ofW (cc := b_SlippedStreams_beginAnew) (maxL := 1) (ret := none) (by decide) rfl ?_
  intro p e s m args below meth c s₁ B hml hv
  obtain ⟨rfl, hsz, hP, hKK, hD0⟩ := hv
  have hx := B.exec
  have hb := B.bytes
  have hr := B.returns
  have hts : ∀ w ∈ q_big, w.before _ s = true := fun w h => atoms_spec (ws := w_SlippedStreams_beginAnew) B.pre w (List.mem_cons_of_mem _ h)
  have hown : s.vm.findClass "SlippedStreams" = some m.cls := findClass_of_methodNamed B.named
  have hlocks := B.notSynchronized
  subst hsz
  have hD := hD0.self (sz := s.heap.size)
  generalize hAe : va_A (wX cI cZ ad z0) s.heap.size = A at hD ⊢
  have hA : ∀ q : Nat, s.heap.size ≤ q → A q := fun q h => by rw [← hAe]; exact Or.inr h
  have hS : va_S A s.heap s.heap [] := va_S.rf
  have hK := hKK.1
  have hl := lv_entry ([.ref (ad 0)]) (n := 1) (Nat.le_of_ble_eq_true rfl)
  rw [lg_entry_eq]
  generalize (lg_sl ([.ref (ad 0)]) ++ List.replicate (1 - (lg_sl ([.ref (ad 0)])).length) Slot.unset).toArray = ls at hl ⊢
  have hl : lv_has ls 1 [(0, .ref (ad 0))] := hl
  unfold x_beginAnew at h
  refine lv_aload_n hx hb d_SlippedStreams_beginAnew_0 rfl (lv_at hl 0 rfl) ?_
  refine xg_0_link hx hb hts hin_SlippedStreams hown hK hP (hts _ k_363) (fun _ h9 => h9) d_SlippedStreams_beginAnew_1 ?_
  refine lv_aload_n hx hb d_SlippedStreams_beginAnew_4 rfl (lv_at hl 0 rfl) ?_
  refine xg_0_filled hx hb hts hin_SlippedStreams hown hK hP (hts _ k_362) (fun _ h9 => h9) d_SlippedStreams_beginAnew_5 ?_
  obtain ⟨r1, z1, hc1, h⟩ := obn_e h
  refine q_gov (va_runV (As := [.ref (ad 12)]) (rest := []) ⟨hx, hb, hml, hown, hts⟩ (c_x_Link_begin_13_12 l dC dI cI cZ ad z0 _ hc1 _) (cwV 1 hts (q_goodL _ (q_l4 k_441 k_442 k_443 k_55) k_444) rfl rfl rfl (by decide +kernel) ⟨Nat.le_of_ble_eq_true rfl, Nat.le_of_ble_eq_true rfl⟩) (q_preV qok hKK hP hD (va_recv (ci := 2) (q0 := 13) hK hP rfl rfl)) rfl rfl hl.1 rfl (lv_room (Nat.le_of_ble_eq_true rfl)) d_SlippedStreams_beginAnew_8 ⟨Nat.le_refl _, Nat.le_refl _⟩) hD hS hA (fun H locs hP hD hS => ?_)
  refine lv_aload_n hx hb d_SlippedStreams_beginAnew_11 rfl (lv_at hl 0 rfl) ?_
  refine xg_0_addressStream hx hb hts hin_SlippedStreams hown hK hP (hts _ k_364) (fun _ h9 => h9) d_SlippedStreams_beginAnew_12 ?_
  obtain ⟨r2, z2, hc2, h⟩ := obn_e h
  refine q_gov (va_runV (As := []) (rest := []) ⟨hx, hb, hml, hown, hts⟩ (c_x_AddressStream_begin_29 l dC dI cI cZ ad z1 _ hc2 _) (cwV 0 hts (q_goodL _ (q_l4 k_456 k_457 k_458 k_60) k_459) rfl rfl rfl (by decide +kernel) ⟨Nat.le_of_ble_eq_true rfl, Nat.le_of_ble_eq_true rfl⟩) (q_preV qok hKK hP hD (va_recv (ci := 5) (q0 := 29) hK hP rfl rfl)) rfl rfl hl.1 rfl (lv_room (Nat.le_of_ble_eq_true rfl)) d_SlippedStreams_beginAnew_15 ⟨Nat.le_refl _, Nat.le_refl _⟩) hD hS hA (fun H locs hP hD hS => ?_)
  refine lv_aload_n hx hb d_SlippedStreams_beginAnew_18 rfl (lv_at hl 0 rfl) ?_
  refine xg_0_valueStream hx hb hts hin_SlippedStreams hown hK hP (hts _ k_365) (fun _ h9 => h9) d_SlippedStreams_beginAnew_19 ?_
  obtain ⟨r3, z3, hc3, h⟩ := obn_e h
  refine q_gov (va_runV (As := []) (rest := []) ⟨hx, hb, hml, hown, hts⟩ (c_x_ValueStream_begin_31 l dC dI cI cZ ad z2 _ hc3 _) (cwV 0 hts (q_goodL _ (q_l4 k_470 k_471 k_472 k_61) k_473) rfl rfl rfl (by decide +kernel) ⟨Nat.le_of_ble_eq_true rfl, Nat.le_of_ble_eq_true rfl⟩) (q_preV qok hKK hP hD (va_recv (ci := 6) (q0 := 31) hK hP rfl rfl)) rfl rfl hl.1 rfl (lv_room (Nat.le_of_ble_eq_true rfl)) d_SlippedStreams_beginAnew_22 ⟨Nat.le_refl _, Nat.le_refl _⟩) hD hS hA (fun H locs hP hD hS => ?_)
  refine lv_aload_n hx hb d_SlippedStreams_beginAnew_25 rfl (lv_at hl 0 rfl) ?_
  refine xg_0_plainRun hx hb hts hin_SlippedStreams hown hK hP (hts _ k_366) (fun _ h9 => h9) d_SlippedStreams_beginAnew_26 ?_
  refine lv_aload_n hx hb d_SlippedStreams_beginAnew_29 rfl (lv_at hl 0 rfl) ?_
  refine xg_0_filled hx hb hts hin_SlippedStreams hown hK hP (hts _ k_362) (fun _ h9 => h9) d_SlippedStreams_beginAnew_30 ?_
  obtain ⟨r4, z4, hc4, h⟩ := obn_e h
  refine q_gov (va_runV (As := [.ref (ad 12)]) (rest := []) ⟨hx, hb, hml, hown, hts⟩ (c_x_PlainRun_begin_35_12 l dC dI cI cZ ad z3 _ hc4 _) (cwV 1 hts (q_goodL _ (q_l4 k_479 k_480 k_481 k_63) k_482) rfl rfl rfl (by decide +kernel) ⟨Nat.le_of_ble_eq_true rfl, Nat.le_of_ble_eq_true rfl⟩) (q_preV qok hKK hP hD (va_recv (ci := 8) (q0 := 35) hK hP rfl rfl)) rfl rfl hl.1 rfl (lv_room (Nat.le_of_ble_eq_true rfl)) d_SlippedStreams_beginAnew_33 ⟨Nat.le_refl _, Nat.le_refl _⟩) hD hS hA (fun H locs hP hD hS => ?_)
  refine lv_aload_n hx hb d_SlippedStreams_beginAnew_36 rfl (lv_at hl 0 rfl) ?_
  refine lv_iconst (v := 0) hx hb d_SlippedStreams_beginAnew_37 (by decide) ?_
  obtain ⟨z5, e5, h⟩ := bnd_e h
  refine xp_0_lost hx hb hts hin_SlippedStreams hown hK hP hD hS (hts _ k_367) (fun _ h9 => h9) d_SlippedStreams_beginAnew_38 e5 (fun H locs hP hD hS => ?_)
  exact q_vret hx hb hr hlocks h hP hD hS d_SlippedStreams_beginAnew_41
def x_add (z0 : ST) (x1 x2 x3 x4 : Int32) : OR := if 24 ≤ (z0.1 1) then (some ((-1), z0)) else (obn (x_Program_isSound z0 x1 x2 x3 x4) (fun r1 z1 => if r1 = 0 then (some ((-1), z1)) else (obn (x_Program_append_1 z1 x1 x2 x3 x4) (fun r2 z2 => obn (x_beginAnew z2) (fun r3 z3 => some (r2, z3))))))
set_option maxRecDepth 100000 in
set_option maxHeartbeats 4000000 in
theorem c_x_add (l : Launch) (dC : Nat → ClassId) (dI : Nat → Nat → Nat) (cI cZ : ClassId) (ad : Nat → Nat) (z0 : ST) (x1 x2 x3 x4 : Int32) (R : Int32 × ST) (h : x_add z0 x1 x2 x3 x4 = some R) : qMi l y_SlippedStreams_add w_SlippedStreams_add 5 112 (KX dC dI cI cZ) (dC, dI) q_cl (wX cI cZ ad) [.ref (ad 0), .int x1, .int x2, .int x3, .int x4] z0 R := by
  intro sz
  refine Met.ofW (cc := b_SlippedStreams_add) (maxL := 6) (ret := (some .int)) (by decide) rfl ?_
  intro p e s m args below meth c s₁ B hml hv
  obtain ⟨rfl, hsz, hP, hKK, hD0⟩ := hv
  have hx := B.exec
  have hb := B.bytes
  have hr := B.returns
  have hts : ∀ w ∈ q_big, w.before _ s = true := fun w h => atoms_spec (ws := w_SlippedStreams_add) B.pre w (List.mem_cons_of_mem _ h)
  have hown : s.vm.findClass "SlippedStreams" = some m.cls := findClass_of_methodNamed B.named
  have hlocks := B.notSynchronized
  subst hsz
  have hD := hD0.self (sz := s.heap.size)
  generalize hAe : va_A (wX cI cZ ad z0) s.heap.size = A at hD ⊢
  have hA : ∀ q : Nat, s.heap.size ≤ q → A q := fun q h => by rw [← hAe]; exact Or.inr h
  have hS : va_S A s.heap s.heap [] := va_S.rf
  have hK := hKK.1
  have hl := lv_entry ([.ref (ad 0), .int x1, .int x2, .int x3, .int x4]) (n := 6) (Nat.le_of_ble_eq_true rfl)
  rw [lg_entry_eq]
  generalize (lg_sl ([.ref (ad 0), .int x1, .int x2, .int x3, .int x4]) ++ List.replicate (6 - (lg_sl ([.ref (ad 0), .int x1, .int x2, .int x3, .int x4])).length) Slot.unset).toArray = ls at hl ⊢
  have hl : lv_has ls 6 [(0, .ref (ad 0)), (1, .int x1), (2, .int x2), (3, .int x3), (4, .int x4)] := hl
  unfold x_add at h
  refine lv_aload_n hx hb d_SlippedStreams_add_0 rfl (lv_at hl 0 rfl) ?_
  refine xg_0_program hx hb hts hin_SlippedStreams hown hK hP (hts _ k_361) (fun _ h9 => h9) d_SlippedStreams_add_1 ?_
  refine xg_1_size hx hb hts hin_Program hown hK hP (hts _ k_114) (fun _ h9 => h9) d_SlippedStreams_add_4 ?_
  refine lv_bipush (v := 24) hx hb d_SlippedStreams_add_7 (by decide) ?_
  refine lv_icmp_ge (tgt := 23) hx hb d_SlippedStreams_add_9 (by decide) (fun hc => ?_) (fun hc => ?_)
  · replace h := if_t hc h
    refine lv_iconst (v := (-1)) hx hb d_SlippedStreams_add_23 (by decide) ?_
    exact q_iret hx hb hr hlocks h hP hD hS d_SlippedStreams_add_24
  · replace h := if_f hc h
    refine lv_iload_n hx hb d_SlippedStreams_add_12 rfl (lv_at hl 1 rfl) ?_
    refine lv_iload_n hx hb d_SlippedStreams_add_13 rfl (lv_at hl 2 rfl) ?_
    refine lv_iload_n hx hb d_SlippedStreams_add_14 rfl (lv_at hl 3 rfl) ?_
    refine lv_iload hx hb d_SlippedStreams_add_15 (lv_at hl 4 rfl) ?_
    obtain ⟨r1, z1, hc1, h⟩ := obn_e h
    refine q_goi (va_runS (As := [.int x1, .int x2, .int x3, .int x4]) (rest := []) ⟨hx, hb, hml, hown, hts⟩ (c_x_Program_isSound l dC dI cI cZ ad z0 x1 x2 x3 x4 _ hc1 _) (va_cwS 4 hts (q_goodL _ (q_l3 k_387 k_388 k_54) k_389) rfl rfl rfl (by decide +kernel) ⟨Nat.le_of_ble_eq_true rfl, Nat.le_of_ble_eq_true rfl⟩) (q_preS qok hKK hP hD) rfl rfl hl.1 rfl (lv_room (Nat.le_of_ble_eq_true rfl)) d_SlippedStreams_add_17 ⟨Nat.le_refl _, Nat.le_refl _⟩) hD hS hA (fun H locs hP hD hS => ?_)
    refine lv_if_ne (tgt := 25) hx hb d_SlippedStreams_add_20 (by decide) (fun hc => ?_) (fun hc => ?_)
    · replace h := if_f hc h
      refine lv_aload_n hx hb d_SlippedStreams_add_25 rfl (lv_at hl 0 rfl) ?_
      refine xg_0_program hx hb hts hin_SlippedStreams hown hK hP (hts _ k_361) (fun _ h9 => h9) d_SlippedStreams_add_26 ?_
      refine lv_iload_n hx hb d_SlippedStreams_add_29 rfl (lv_at hl 1 rfl) ?_
      refine lv_iload_n hx hb d_SlippedStreams_add_30 rfl (lv_at hl 2 rfl) ?_
      refine lv_iload_n hx hb d_SlippedStreams_add_31 rfl (lv_at hl 3 rfl) ?_
      refine lv_iload hx hb d_SlippedStreams_add_32 (lv_at hl 4 rfl) ?_
      obtain ⟨r2, z2, hc2, h⟩ := obn_e h
      refine q_goi (va_runV (As := [.int x1, .int x2, .int x3, .int x4]) (rest := []) ⟨hx, hb, hml, hown, hts⟩ (c_x_Program_append_1 l dC dI cI cZ ad z1 x1 x2 x3 x4 _ hc2 _) (cwV 4 hts (q_goodL _ (q_l4 k_393 k_394 k_395 k_54) k_396) rfl rfl rfl (by decide +kernel) ⟨Nat.le_of_ble_eq_true rfl, Nat.le_of_ble_eq_true rfl⟩) (q_preV qok hKK hP hD (va_recv (ci := 1) (q0 := 1) hK hP rfl rfl)) rfl rfl hl.1 rfl (lv_room (Nat.le_of_ble_eq_true rfl)) d_SlippedStreams_add_34 ⟨Nat.le_refl _, Nat.le_refl _⟩) hD hS hA (fun H locs hP hD hS => ?_)
      refine lv_istore (lv' := [(5, .int r2), (0, .ref (ad 0)), (1, .int x1), (2, .int x2), (3, .int x3), (4, .int x4)]) hx hb d_SlippedStreams_add_37 hl (by decide) rfl (fun ls hl => ?_)
      refine lv_aload_n hx hb d_SlippedStreams_add_39 rfl (lv_at hl 1 rfl) ?_
      obtain ⟨r3, z3, hc3, h⟩ := obn_e h
      refine q_gov (va_runV (As := []) (rest := []) ⟨hx, hb, hml, hown, hts⟩ (c_x_beginAnew l dC dI cI cZ ad z2 _ hc3 _) (cwV 0 hts (q_goodL _ (q_l4 k_437 k_439 k_12 k_53) k_440) rfl rfl rfl (by decide +kernel) ⟨Nat.le_of_ble_eq_true rfl, Nat.le_of_ble_eq_true rfl⟩) (q_preV qok hKK hP hD (va_recv (ci := 0) (q0 := 0) hK hP rfl rfl)) rfl rfl hl.1 rfl (lv_room (Nat.le_of_ble_eq_true rfl)) d_SlippedStreams_add_40 ⟨Nat.le_refl _, Nat.le_refl _⟩) hD hS hA (fun H locs hP hD hS => ?_)
      refine lv_iload hx hb d_SlippedStreams_add_43 (lv_at hl 0 rfl) ?_
      exact q_iret hx hb hr hlocks h hP hD hS d_SlippedStreams_add_45
    · replace h := if_t hc h
      refine lv_iconst (v := (-1)) hx hb d_SlippedStreams_add_23 (by decide) ?_
      exact q_iret hx hb hr hlocks h hP hD hS d_SlippedStreams_add_24
def x_fill_g0 (k : Nat → ST → Int32 → Int32 → Int32 → OR) (z0 : ST) (y1 y2 y3 : Int32) : OR := k 1 z0 y1 y2 0
def x_fill_g2 (k : Nat → ST → Int32 → Int32 → Int32 → OR) (z0 : ST) (y1 y2 y3 : Int32) : OR := if 32 ≤ y3 then (obn (x_beginAnew z0) (fun r1 z1 => some (0, z1))) else (gin y3 32 (bnd (stA z0 10 (upd (z0.2 10) y3.toNatClampNeg (y1 + (y3 * y2)))) (fun z2 => k 1 z2 y1 y2 (y3 + 1))))
def x_fill_g (k : Nat → ST → Int32 → Int32 → Int32 → OR) (n : Nat) : ST → Int32 → Int32 → Int32 → OR := match n with
  | 0 => x_fill_g0 k
  | 1 => x_fill_g2 k
  | _ => fun _ _ _ _ => none
def x_fill_f : Nat → Nat → ST → Int32 → Int32 → Int32 → OR
  | 0 => fun _ _ _ _ _ => none
  | n + 1 => x_fill_g (x_fill_f n)
def x_fill (z0 : ST) (x1 x2 : Int32) : OR := x_fill_f 4000 0 z0 x1 x2 0
set_option maxRecDepth 100000 in
set_option maxHeartbeats 4000000 in
theorem c_x_fill (l : Launch) (dC : Nat → ClassId) (dI : Nat → Nat → Nat) (cI cZ : ClassId) (ad : Nat → Nat) (z0 : ST) (x1 x2 : Int32) (R : Int32 × ST) (h : x_fill z0 x1 x2 = some R) : qMv l y_SlippedStreams_fill w_SlippedStreams_fill 4 83 (KX dC dI cI cZ) (dC, dI) q_cl (wX cI cZ ad) [.ref (ad 0), .int x1, .int x2] z0 R := by
  intro sz
  refine Met.ofW (cc := b_SlippedStreams_fill) (maxL := 4) (ret := none) (by decide) rfl ?_
  intro p e s m args below meth c s₁ B hml hv
  obtain ⟨rfl, hsz, hP, hKK, hD0⟩ := hv
  have hx := B.exec
  have hb := B.bytes
  have hr := B.returns
  have hts : ∀ w ∈ q_big, w.before _ s = true := fun w h => atoms_spec (ws := w_SlippedStreams_fill) B.pre w (List.mem_cons_of_mem _ h)
  have hown : s.vm.findClass "SlippedStreams" = some m.cls := findClass_of_methodNamed B.named
  have hlocks := B.notSynchronized
  subst hsz
  have hD := hD0.self (sz := s.heap.size)
  generalize hAe : va_A (wX cI cZ ad z0) s.heap.size = A at hD ⊢
  have hA : ∀ q : Nat, s.heap.size ≤ q → A q := fun q h => by rw [← hAe]; exact Or.inr h
  have hS : va_S A s.heap s.heap [] := va_S.rf
  have hK := hKK.1
  have hl := lv_entry ([.ref (ad 0), .int x1, .int x2]) (n := 4) (Nat.le_of_ble_eq_true rfl)
  rw [lg_entry_eq]
  generalize (lg_sl ([.ref (ad 0), .int x1, .int x2]) ++ List.replicate (4 - (lg_sl ([.ref (ad 0), .int x1, .int x2])).length) Slot.unset).toArray = ls at hl ⊢
  have hl : lv_has ls 4 [(0, .ref (ad 0)), (1, .int x1), (2, .int x2)] := hl
  have key : ∀ n : Nat, (∀ (z0 : ST) (y1 y2 y3 : Int32) (H : Heap) (locs : List Loc) (ls : Array Slot), x_fill_f n 0 z0 y1 y2 y3 = some R → va_P (dC, dI) q_cl (wX cI cZ ad z0) H → va_D A (wX cI cZ ad z0) → va_S A s.heap H locs → lv_has ls 4 [(0, .ref (ad 0)), (1, .int y1), (2, .int y2)] → qWv p l e w_SlippedStreams_fill 4 83 s m [.ref (ad 0), .int x1, .int x2] below meth c (dC, dI) q_cl (wX cI cZ ad) A R H locs (F0 m 0 ls [])) ∧ (∀ (z0 : ST) (y1 y2 y3 : Int32) (H : Heap) (locs : List Loc) (ls : Array Slot), x_fill_f n 1 z0 y1 y2 y3 = some R → va_P (dC, dI) q_cl (wX cI cZ ad z0) H → va_D A (wX cI cZ ad z0) → va_S A s.heap H locs → lv_has ls 4 [(0, .ref (ad 0)), (1, .int y1), (2, .int y2), (3, .int y3)] → qWv p l e w_SlippedStreams_fill 4 83 s m [.ref (ad 0), .int x1, .int x2] below meth c (dC, dI) q_cl (wX cI cZ ad) A R H locs (F0 m 2 ls [])) := by
    intro n
    induction n with
    | zero => exact ⟨fun z0 y1 y2 y3 H locs ls h hP hD hS hl => (by cases h), fun z0 y1 y2 y3 H locs ls h hP hD hS hl => (by cases h)⟩
    | succ n ih =>
      obtain ⟨jp_0, jp_2⟩ := ih
      refine ⟨?_, ?_⟩
      · intro z0 y1 y2 y3 H locs ls h hP hD hS hl
        replace h : x_fill_g0 (x_fill_f n) z0 y1 y2 y3 = some R := h
        unfold x_fill_g0 at h
        refine lv_iconst (v := 0) hx hb d_SlippedStreams_fill_0 (by decide) ?_
        refine lv_istore_n (lv' := [(3, .int 0), (0, .ref (ad 0)), (1, .int y1), (2, .int y2)]) hx hb d_SlippedStreams_fill_1 rfl hl (by decide) rfl (fun ls hl => ?_)
        exact jp_2 z0 y1 y2 0 _ _ _ h hP hD hS (lv_sub hl [1, 2, 3, 0] rfl)
      · intro z0 y1 y2 y3 H locs ls h hP hD hS hl
        replace h : x_fill_g2 (x_fill_f n) z0 y1 y2 y3 = some R := h
        unfold x_fill_g2 at h
        refine lv_iload_n hx hb d_SlippedStreams_fill_2 rfl (lv_at hl 3 rfl) ?_
        refine lv_bipush (v := 32) hx hb d_SlippedStreams_fill_3 (by decide) ?_
        refine lv_icmp_ge (tgt := 25) hx hb d_SlippedStreams_fill_5 (by decide) (fun hc => ?_) (fun hc => ?_)
        · replace h := if_t hc h
          refine lv_aload_n hx hb d_SlippedStreams_fill_25 rfl (lv_at hl 0 rfl) ?_
          obtain ⟨r1, z1, hc1, h⟩ := obn_e h
          refine q_gov (va_runV (As := []) (rest := []) ⟨hx, hb, hml, hown, hts⟩ (c_x_beginAnew l dC dI cI cZ ad z0 _ hc1 _) (cwV 0 hts (q_goodL _ (q_l4 k_437 k_439 k_12 k_53) k_440) rfl rfl rfl (by decide +kernel) ⟨Nat.le_of_ble_eq_true rfl, Nat.le_of_ble_eq_true rfl⟩) (q_preV qok hKK hP hD (va_recv (ci := 0) (q0 := 0) hK hP rfl rfl)) rfl rfl hl.1 rfl (lv_room (Nat.le_of_ble_eq_true rfl)) d_SlippedStreams_fill_26 ⟨Nat.le_refl _, Nat.le_refl _⟩) hD hS hA (fun H locs hP hD hS => ?_)
          exact q_vret hx hb hr hlocks h hP hD hS d_SlippedStreams_fill_29
        · replace h := if_f hc h
          refine lv_aload_n hx hb d_SlippedStreams_fill_8 rfl (lv_at hl 0 rfl) ?_
          refine xg_0_filled hx hb hts hin_SlippedStreams hown hK hP (hts _ k_362) (fun _ h9 => h9) d_SlippedStreams_fill_9 ?_
          refine lv_iload_n hx hb d_SlippedStreams_fill_12 rfl (lv_at hl 3 rfl) ?_
          refine lv_iload_n hx hb d_SlippedStreams_fill_13 rfl (lv_at hl 1 rfl) ?_
          refine lv_iload_n hx hb d_SlippedStreams_fill_14 rfl (lv_at hl 3 rfl) ?_
          refine lv_iload_n hx hb d_SlippedStreams_fill_15 rfl (lv_at hl 2 rfl) ?_
          refine lv_imul hx hb d_SlippedStreams_fill_16 ?_
          refine lv_iadd hx hb d_SlippedStreams_fill_17 ?_
          obtain ⟨hi, h⟩ := gin_e h
          obtain ⟨z2, e2, h⟩ := bnd_e h
          refine xs_10 hx hb hK hP hD hS hi d_SlippedStreams_fill_18 e2 (fun H locs hP hD hS => ?_)
          refine lv_iinc (k := 3) (v := y3 + 1) (lv' := [(3, .int (y3 + 1)), (0, .ref (ad 0)), (1, .int y1), (2, .int y2)]) hx hb d_SlippedStreams_fill_19 hl rfl rfl (by decide) rfl (fun ls hl => ?_)
          refine lv_goto (tgt := 2) hx hb d_SlippedStreams_fill_22 (by decide) ?_
          exact jp_2 z2 y1 y2 (y3 + 1) _ _ _ h hP hD hS (lv_sub hl [1, 2, 3, 0] rfl)
  exact (key 4000).1 z0 x1 x2 0 _ _ _ h hP hD hS (lv_sub hl [0, 1, 2] rfl)
def x_Program_removeAll_1 (z0 : ST) : OR := bnd (stI z0 1 0) (fun z1 => obn (x_Program_slice_1 z1) (fun r2 z2 => some (0, z2)))
set_option maxRecDepth 100000 in
set_option maxHeartbeats 4000000 in
theorem c_x_Program_removeAll_1 (l : Launch) (dC : Nat → ClassId) (dI : Nat → Nat → Nat) (cI cZ : ClassId) (ad : Nat → Nat) (z0 : ST) (R : Int32 × ST) (h : x_Program_removeAll_1 z0 = some R) : qMv l y_Program_removeAll w_Program_removeAll 4 87 (KX dC dI cI cZ) (dC, dI) q_cl (wX cI cZ ad) [.ref (ad 1)] z0 R := by
  intro sz
  refine Met.ofW (cc := b_Program_removeAll) (maxL := 1) (ret := none) (by decide) rfl ?_
  intro p e s m args below meth c s₁ B hml hv
  obtain ⟨rfl, hsz, hP, hKK, hD0⟩ := hv
  have hx := B.exec
  have hb := B.bytes
  have hr := B.returns
  have hts : ∀ w ∈ q_big, w.before _ s = true := fun w h => atoms_spec (ws := w_Program_removeAll) B.pre w (List.mem_cons_of_mem _ h)
  have hown : s.vm.findClass "SlippedStreams$Program" = some m.cls := findClass_of_methodNamed B.named
  have hlocks := B.notSynchronized
  subst hsz
  have hD := hD0.self (sz := s.heap.size)
  generalize hAe : va_A (wX cI cZ ad z0) s.heap.size = A at hD ⊢
  have hA : ∀ q : Nat, s.heap.size ≤ q → A q := fun q h => by rw [← hAe]; exact Or.inr h
  have hS : va_S A s.heap s.heap [] := va_S.rf
  have hK := hKK.1
  have hl := lv_entry ([.ref (ad 1)]) (n := 1) (Nat.le_of_ble_eq_true rfl)
  rw [lg_entry_eq]
  generalize (lg_sl ([.ref (ad 1)]) ++ List.replicate (1 - (lg_sl ([.ref (ad 1)])).length) Slot.unset).toArray = ls at hl ⊢
  have hl : lv_has ls 1 [(0, .ref (ad 1))] := hl
  unfold x_Program_removeAll_1 at h
  refine lv_aload_n hx hb d_Program_removeAll_0 rfl (lv_at hl 0 rfl) ?_
  refine lv_iconst (v := 0) hx hb d_Program_removeAll_1 (by decide) ?_
  obtain ⟨z1, e1, h⟩ := bnd_e h
  refine xp_1_size hx hb hts hin_Program hown hK hP hD hS (hts _ k_115) (fun _ h9 => h9) d_Program_removeAll_2 e1 (fun H locs hP hD hS => ?_)
  refine lv_aload_n hx hb d_Program_removeAll_5 rfl (lv_at hl 0 rfl) ?_
  obtain ⟨r2, z2, hc2, h⟩ := obn_e h
  refine q_gov (va_runV (As := []) (rest := []) ⟨hx, hb, hml, hown, hts⟩ (c_x_Program_slice_1 l dC dI cI cZ ad z1 _ hc2 _) (cwV 0 hts (q_goodL _ (q_l4 k_397 k_399 k_5 k_54) k_400) rfl rfl rfl (by decide +kernel) ⟨Nat.le_of_ble_eq_true rfl, Nat.le_of_ble_eq_true rfl⟩) (q_preV qok hKK hP hD (va_recv (ci := 1) (q0 := 1) hK hP rfl rfl)) rfl rfl hl.1 rfl (lv_room (Nat.le_of_ble_eq_true rfl)) d_Program_removeAll_6 ⟨Nat.le_refl _, Nat.le_refl _⟩) hD hS hA (fun H locs hP hD hS => ?_)
  exact q_vret hx hb hr hlocks h hP hD hS d_Program_removeAll_9
def x_clear (z0 : ST) : OR := obn (x_Program_removeAll_1 z0) (fun r1 z1 => obn (x_beginAnew z1) (fun r2 z2 => some (z0.1 1, z2)))
set_option maxRecDepth 100000 in
set_option maxHeartbeats 4000000 in
theorem c_x_clear (l : Launch) (dC : Nat → ClassId) (dI : Nat → Nat → Nat) (cI cZ : ClassId) (ad : Nat → Nat) (z0 : ST) (R : Int32 × ST) (h : x_clear z0 = some R) : qMi l y_SlippedStreams_clear w_SlippedStreams_clear 5 107 (KX dC dI cI cZ) (dC, dI) q_cl (wX cI cZ ad) [.ref (ad 0)] z0 R := by
  intro sz
  refine Met.ofW (cc := b_SlippedStreams_clear) (maxL := 2) (ret := (some .int)) (by decide) rfl ?_
  intro p e s m args below meth c s₁ B hml hv
  obtain ⟨rfl, hsz, hP, hKK, hD0⟩ := hv
  have hx := B.exec
  have hb := B.bytes
  have hr := B.returns
  have hts : ∀ w ∈ q_big, w.before _ s = true := fun w h => atoms_spec (ws := w_SlippedStreams_clear) B.pre w (List.mem_cons_of_mem _ h)
  have hown : s.vm.findClass "SlippedStreams" = some m.cls := findClass_of_methodNamed B.named
  have hlocks := B.notSynchronized
  subst hsz
  have hD := hD0.self (sz := s.heap.size)
  generalize hAe : va_A (wX cI cZ ad z0) s.heap.size = A at hD ⊢
  have hA : ∀ q : Nat, s.heap.size ≤ q → A q := fun q h => by rw [← hAe]; exact Or.inr h
  have hS : va_S A s.heap s.heap [] := va_S.rf
  have hK := hKK.1
  have hl := lv_entry ([.ref (ad 0)]) (n := 2) (Nat.le_of_ble_eq_true rfl)
  rw [lg_entry_eq]
  generalize (lg_sl ([.ref (ad 0)]) ++ List.replicate (2 - (lg_sl ([.ref (ad 0)])).length) Slot.unset).toArray = ls at hl ⊢
  have hl : lv_has ls 2 [(0, .ref (ad 0))] := hl
  unfold x_clear at h
  refine lv_aload_n hx hb d_SlippedStreams_clear_0 rfl (lv_at hl 0 rfl) ?_
  refine xg_0_program hx hb hts hin_SlippedStreams hown hK hP (hts _ k_361) (fun _ h9 => h9) d_SlippedStreams_clear_1 ?_
  refine xg_1_size hx hb hts hin_Program hown hK hP (hts _ k_114) (fun _ h9 => h9) d_SlippedStreams_clear_4 ?_
  refine lv_istore_n (lv' := [(1, .int (z0.1 1)), (0, .ref (ad 0))]) hx hb d_SlippedStreams_clear_7 rfl hl (by decide) rfl (fun ls hl => ?_)
  refine lv_aload_n hx hb d_SlippedStreams_clear_8 rfl (lv_at hl 1 rfl) ?_
  refine xg_0_program hx hb hts hin_SlippedStreams hown hK hP (hts _ k_361) (fun _ h9 => h9) d_SlippedStreams_clear_9 ?_
  obtain ⟨r1, z1, hc1, h⟩ := obn_e h
  refine q_gov (va_runV (As := []) (rest := []) ⟨hx, hb, hml, hown, hts⟩ (c_x_Program_removeAll_1 l dC dI cI cZ ad z0 _ hc1 _) (cwV 0 hts (q_goodL _ (q_l4 k_494 k_495 k_496 k_54) k_497) rfl rfl rfl (by decide +kernel) ⟨Nat.le_of_ble_eq_true rfl, Nat.le_of_ble_eq_true rfl⟩) (q_preV qok hKK hP hD (va_recv (ci := 1) (q0 := 1) hK hP rfl rfl)) rfl rfl hl.1 rfl (lv_room (Nat.le_of_ble_eq_true rfl)) d_SlippedStreams_clear_12 ⟨Nat.le_refl _, Nat.le_refl _⟩) hD hS hA (fun H locs hP hD hS => ?_)
  refine lv_aload_n hx hb d_SlippedStreams_clear_15 rfl (lv_at hl 1 rfl) ?_
  obtain ⟨r2, z2, hc2, h⟩ := obn_e h
  refine q_gov (va_runV (As := []) (rest := []) ⟨hx, hb, hml, hown, hts⟩ (c_x_beginAnew l dC dI cI cZ ad z1 _ hc2 _) (cwV 0 hts (q_goodL _ (q_l4 k_437 k_439 k_12 k_53) k_440) rfl rfl rfl (by decide +kernel) ⟨Nat.le_of_ble_eq_true rfl, Nat.le_of_ble_eq_true rfl⟩) (q_preV qok hKK hP hD (va_recv (ci := 0) (q0 := 0) hK hP rfl rfl)) rfl rfl hl.1 rfl (lv_room (Nat.le_of_ble_eq_true rfl)) d_SlippedStreams_clear_16 ⟨Nat.le_refl _, Nat.le_refl _⟩) hD hS hA (fun H locs hP hD hS => ?_)
  refine lv_iload_n hx hb d_SlippedStreams_clear_19 rfl (lv_at hl 0 rfl) ?_
  exact q_iret hx hb hr hlocks h hP hD hS d_SlippedStreams_clear_20
def x_reset (z0 : ST) : OR := obn (x_beginAnew z0) (fun r1 z1 => some (0, z1))
set_option maxRecDepth 100000 in
set_option maxHeartbeats 4000000 in
theorem c_x_reset (l : Launch) (dC : Nat → ClassId) (dI : Nat → Nat → Nat) (cI cZ : ClassId) (ad : Nat → Nat) (z0 : ST) (R : Int32 × ST) (h : x_reset z0 = some R) : qMv l y_SlippedStreams_reset w_SlippedStreams_reset 4 83 (KX dC dI cI cZ) (dC, dI) q_cl (wX cI cZ ad) [.ref (ad 0)] z0 R := by
  intro sz
  refine Met.ofW (cc := b_SlippedStreams_reset) (maxL := 1) (ret := none) (by decide) rfl ?_
  intro p e s m args below meth c s₁ B hml hv
  obtain ⟨rfl, hsz, hP, hKK, hD0⟩ := hv
  have hx := B.exec
  have hb := B.bytes
  have hr := B.returns
  have hts : ∀ w ∈ q_big, w.before _ s = true := fun w h => atoms_spec (ws := w_SlippedStreams_reset) B.pre w (List.mem_cons_of_mem _ h)
  have hown : s.vm.findClass "SlippedStreams" = some m.cls := findClass_of_methodNamed B.named
  have hlocks := B.notSynchronized
  subst hsz
  have hD := hD0.self (sz := s.heap.size)
  generalize hAe : va_A (wX cI cZ ad z0) s.heap.size = A at hD ⊢
  have hA : ∀ q : Nat, s.heap.size ≤ q → A q := fun q h => by rw [← hAe]; exact Or.inr h
  have hS : va_S A s.heap s.heap [] := va_S.rf
  have hK := hKK.1
  have hl := lv_entry ([.ref (ad 0)]) (n := 1) (Nat.le_of_ble_eq_true rfl)
  rw [lg_entry_eq]
  generalize (lg_sl ([.ref (ad 0)]) ++ List.replicate (1 - (lg_sl ([.ref (ad 0)])).length) Slot.unset).toArray = ls at hl ⊢
  have hl : lv_has ls 1 [(0, .ref (ad 0))] := hl
  unfold x_reset at h
  refine lv_aload_n hx hb d_SlippedStreams_reset_0 rfl (lv_at hl 0 rfl) ?_
  obtain ⟨r1, z1, hc1, h⟩ := obn_e h
  refine q_gov (va_runV (As := []) (rest := []) ⟨hx, hb, hml, hown, hts⟩ (c_x_beginAnew l dC dI cI cZ ad z0 _ hc1 _) (cwV 0 hts (q_goodL _ (q_l4 k_437 k_439 k_12 k_53) k_440) rfl rfl rfl (by decide +kernel) ⟨Nat.le_of_ble_eq_true rfl, Nat.le_of_ble_eq_true rfl⟩) (q_preV qok hKK hP hD (va_recv (ci := 0) (q0 := 0) hK hP rfl rfl)) rfl rfl hl.1 rfl (lv_room (Nat.le_of_ble_eq_true rfl)) d_SlippedStreams_reset_1 ⟨Nat.le_refl _, Nat.le_refl _⟩) hD hS hA (fun H locs hP hD hS => ?_)
  exact q_vret hx hb hr hlocks h hP hD hS d_SlippedStreams_reset_4
def x_streamOf (z0 : ST) (x1 : Int32) : OR := if x1 < 0 then (some ((-1), z0)) else (if (z0.1 1) ≤ x1 then (some ((-1), z0)) else (gin x1 24 (some (z0.2 4 x1.toNatClampNeg, z0))))
set_option maxRecDepth 100000 in
set_option maxHeartbeats 4000000 in
theorem c_x_streamOf (l : Launch) (dC : Nat → ClassId) (dI : Nat → Nat → Nat) (cI cZ : ClassId) (ad : Nat → Nat) (z0 : ST) (x1 : Int32) (R : Int32 × ST) (h : x_streamOf z0 x1 = some R) : qMi l y_SlippedStreams_streamOf w_SlippedStreams_streamOf 0 0 (KX dC dI cI cZ) (dC, dI) q_cl (wX cI cZ ad) [.ref (ad 0), .int x1] z0 R := by
  intro sz
  refine Met.ofW (cc := b_SlippedStreams_streamOf) (maxL := 2) (ret := (some .int)) (by decide) rfl ?_
  intro p e s m args below meth c s₁ B hml hv
  obtain ⟨rfl, hsz, hP, hKK, hD0⟩ := hv
  have hx := B.exec
  have hb := B.bytes
  have hr := B.returns
  have hts : ∀ w ∈ q_big, w.before _ s = true := fun w h => atoms_spec (ws := w_SlippedStreams_streamOf) B.pre w (List.mem_cons_of_mem _ h)
  have hown : s.vm.findClass "SlippedStreams" = some m.cls := findClass_of_methodNamed B.named
  have hlocks := B.notSynchronized
  subst hsz
  have hD := hD0.self (sz := s.heap.size)
  generalize hAe : va_A (wX cI cZ ad z0) s.heap.size = A at hD ⊢
  have hA : ∀ q : Nat, s.heap.size ≤ q → A q := fun q h => by rw [← hAe]; exact Or.inr h
  have hS : va_S A s.heap s.heap [] := va_S.rf
  have hK := hKK.1
  have hl := lv_entry ([.ref (ad 0), .int x1]) (n := 2) (Nat.le_of_ble_eq_true rfl)
  rw [lg_entry_eq]
  generalize (lg_sl ([.ref (ad 0), .int x1]) ++ List.replicate (2 - (lg_sl ([.ref (ad 0), .int x1])).length) Slot.unset).toArray = ls at hl ⊢
  have hl : lv_has ls 2 [(0, .ref (ad 0)), (1, .int x1)] := hl
  unfold x_streamOf at h
  refine lv_iload_n hx hb d_SlippedStreams_streamOf_0 rfl (lv_at hl 1 rfl) ?_
  refine lv_if_lt (tgt := 27) hx hb d_SlippedStreams_streamOf_1 (by decide) (fun hc => ?_) (fun hc => ?_)
  · replace h := if_t hc h
    refine lv_iconst (v := (-1)) hx hb d_SlippedStreams_streamOf_27 (by decide) ?_
    exact q_iret hx hb hr hlocks h hP hD hS d_SlippedStreams_streamOf_28
  · replace h := if_f hc h
    refine lv_iload_n hx hb d_SlippedStreams_streamOf_4 rfl (lv_at hl 1 rfl) ?_
    refine lv_aload_n hx hb d_SlippedStreams_streamOf_5 rfl (lv_at hl 0 rfl) ?_
    refine xg_0_program hx hb hts hin_SlippedStreams hown hK hP (hts _ k_361) (fun _ h9 => h9) d_SlippedStreams_streamOf_6 ?_
    refine xg_1_size hx hb hts hin_Program hown hK hP (hts _ k_114) (fun _ h9 => h9) d_SlippedStreams_streamOf_9 ?_
    refine lv_icmp_ge (tgt := 27) hx hb d_SlippedStreams_streamOf_12 (by decide) (fun hc => ?_) (fun hc => ?_)
    · replace h := if_t hc h
      refine lv_iconst (v := (-1)) hx hb d_SlippedStreams_streamOf_27 (by decide) ?_
      exact q_iret hx hb hr hlocks h hP hD hS d_SlippedStreams_streamOf_28
    · replace h := if_f hc h
      refine lv_aload_n hx hb d_SlippedStreams_streamOf_15 rfl (lv_at hl 0 rfl) ?_
      refine xg_0_program hx hb hts hin_SlippedStreams hown hK hP (hts _ k_361) (fun _ h9 => h9) d_SlippedStreams_streamOf_16 ?_
      refine xg_1_streams hx hb hts hin_Program hown hK hP (hts _ k_100) (fun _ h9 => h9) d_SlippedStreams_streamOf_19 ?_
      refine lv_iload_n hx hb d_SlippedStreams_streamOf_22 rfl (lv_at hl 1 rfl) ?_
      obtain ⟨hi, h⟩ := gin_e h
      refine xl_4 hx hb hK hP hi d_SlippedStreams_streamOf_23 ?_
      refine lv_goto (tgt := 28) hx hb d_SlippedStreams_streamOf_24 (by decide) ?_
      exact q_iret hx hb hr hlocks h hP hD hS d_SlippedStreams_streamOf_28
def x_Integer_bitCount (z0 : ST) (x1 : Int32) : OR := some ((((((((x1 - (((x1.toUInt32 >>> ((1 : Int32).toUInt32 &&& Int32.toUInt32 31)).toInt32) &&& 1431655765)) &&& 858993459) + ((((x1 - (((x1.toUInt32 >>> ((1 : Int32).toUInt32 &&& Int32.toUInt32 31)).toInt32) &&& 1431655765)).toUInt32 >>> ((2 : Int32).toUInt32 &&& Int32.toUInt32 31)).toInt32) &&& 858993459)) + (((((x1 - (((x1.toUInt32 >>> ((1 : Int32).toUInt32 &&& Int32.toUInt32 31)).toInt32) &&& 1431655765)) &&& 858993459) + ((((x1 - (((x1.toUInt32 >>> ((1 : Int32).toUInt32 &&& Int32.toUInt32 31)).toInt32) &&& 1431655765)).toUInt32 >>> ((2 : Int32).toUInt32 &&& Int32.toUInt32 31)).toInt32) &&& 858993459)).toUInt32 >>> ((4 : Int32).toUInt32 &&& Int32.toUInt32 31)).toInt32)) &&& 252645135) + (((((((x1 - (((x1.toUInt32 >>> ((1 : Int32).toUInt32 &&& Int32.toUInt32 31)).toInt32) &&& 1431655765)) &&& 858993459) + ((((x1 - (((x1.toUInt32 >>> ((1 : Int32).toUInt32 &&& Int32.toUInt32 31)).toInt32) &&& 1431655765)).toUInt32 >>> ((2 : Int32).toUInt32 &&& Int32.toUInt32 31)).toInt32) &&& 858993459)) + (((((x1 - (((x1.toUInt32 >>> ((1 : Int32).toUInt32 &&& Int32.toUInt32 31)).toInt32) &&& 1431655765)) &&& 858993459) + ((((x1 - (((x1.toUInt32 >>> ((1 : Int32).toUInt32 &&& Int32.toUInt32 31)).toInt32) &&& 1431655765)).toUInt32 >>> ((2 : Int32).toUInt32 &&& Int32.toUInt32 31)).toInt32) &&& 858993459)).toUInt32 >>> ((4 : Int32).toUInt32 &&& Int32.toUInt32 31)).toInt32)) &&& 252645135).toUInt32 >>> ((8 : Int32).toUInt32 &&& Int32.toUInt32 31)).toInt32)) + ((((((((x1 - (((x1.toUInt32 >>> ((1 : Int32).toUInt32 &&& Int32.toUInt32 31)).toInt32) &&& 1431655765)) &&& 858993459) + ((((x1 - (((x1.toUInt32 >>> ((1 : Int32).toUInt32 &&& Int32.toUInt32 31)).toInt32) &&& 1431655765)).toUInt32 >>> ((2 : Int32).toUInt32 &&& Int32.toUInt32 31)).toInt32) &&& 858993459)) + (((((x1 - (((x1.toUInt32 >>> ((1 : Int32).toUInt32 &&& Int32.toUInt32 31)).toInt32) &&& 1431655765)) &&& 858993459) + ((((x1 - (((x1.toUInt32 >>> ((1 : Int32).toUInt32 &&& Int32.toUInt32 31)).toInt32) &&& 1431655765)).toUInt32 >>> ((2 : Int32).toUInt32 &&& Int32.toUInt32 31)).toInt32) &&& 858993459)).toUInt32 >>> ((4 : Int32).toUInt32 &&& Int32.toUInt32 31)).toInt32)) &&& 252645135) + (((((((x1 - (((x1.toUInt32 >>> ((1 : Int32).toUInt32 &&& Int32.toUInt32 31)).toInt32) &&& 1431655765)) &&& 858993459) + ((((x1 - (((x1.toUInt32 >>> ((1 : Int32).toUInt32 &&& Int32.toUInt32 31)).toInt32) &&& 1431655765)).toUInt32 >>> ((2 : Int32).toUInt32 &&& Int32.toUInt32 31)).toInt32) &&& 858993459)) + (((((x1 - (((x1.toUInt32 >>> ((1 : Int32).toUInt32 &&& Int32.toUInt32 31)).toInt32) &&& 1431655765)) &&& 858993459) + ((((x1 - (((x1.toUInt32 >>> ((1 : Int32).toUInt32 &&& Int32.toUInt32 31)).toInt32) &&& 1431655765)).toUInt32 >>> ((2 : Int32).toUInt32 &&& Int32.toUInt32 31)).toInt32) &&& 858993459)).toUInt32 >>> ((4 : Int32).toUInt32 &&& Int32.toUInt32 31)).toInt32)) &&& 252645135).toUInt32 >>> ((8 : Int32).toUInt32 &&& Int32.toUInt32 31)).toInt32)).toUInt32 >>> ((16 : Int32).toUInt32 &&& Int32.toUInt32 31)).toInt32)) &&& 63, z0)
set_option maxRecDepth 100000 in
set_option maxHeartbeats 4000000 in
theorem c_x_Integer_bitCount (l : Launch) (dC : Nat → ClassId) (dI : Nat → Nat → Nat) (cI cZ : ClassId) (ad : Nat → Nat) (z0 : ST) (x1 : Int32) (R : Int32 × ST) (h : x_Integer_bitCount z0 x1 = some R) : qMi l y_Integer_bitCount w_Integer_bitCount 0 0 (KX dC dI cI cZ) (dC, dI) q_cl (wX cI cZ ad) [.int x1] z0 R := by
  intro sz
  refine Met.ofW (cc := b_Integer_bitCount) (maxL := 1) (ret := (some .int)) (by decide) rfl ?_
  intro p e s m args below meth c s₁ B hml hv
  obtain ⟨rfl, hsz, hP, hKK, hD0⟩ := hv
  have hx := B.exec
  have hb := B.bytes
  have hr := B.returns
  have hts : ∀ w ∈ q_big, w.before _ s = true := fun w h => atoms_spec (ws := w_Integer_bitCount) B.pre w (List.mem_cons_of_mem _ h)
  have hown : s.vm.findClass "java/lang/Integer" = some m.cls := findClass_of_methodNamed B.named
  have hlocks := B.notSynchronized
  subst hsz
  have hD := hD0.self (sz := s.heap.size)
  generalize hAe : va_A (wX cI cZ ad z0) s.heap.size = A at hD ⊢
  have hA : ∀ q : Nat, s.heap.size ≤ q → A q := fun q h => by rw [← hAe]; exact Or.inr h
  have hS : va_S A s.heap s.heap [] := va_S.rf
  have hK := hKK.1
  have hl := lv_entry ([.int x1]) (n := 1) (Nat.le_of_ble_eq_true rfl)
  rw [lg_entry_eq]
  generalize (lg_sl ([.int x1]) ++ List.replicate (1 - (lg_sl ([.int x1])).length) Slot.unset).toArray = ls at hl ⊢
  have hl : lv_has ls 1 [(0, .int x1)] := hl
  unfold x_Integer_bitCount at h
  refine lv_iload_n hx hb d_Integer_bitCount_0 rfl (lv_at hl 0 rfl) ?_
  refine lv_iload_n hx hb d_Integer_bitCount_1 rfl (lv_at hl 0 rfl) ?_
  refine lv_iconst (v := 1) hx hb d_Integer_bitCount_2 (by decide) ?_
  refine lv_iushr hx hb d_Integer_bitCount_3 rfl ?_
  refine lv_ldcw (v := 1431655765) hx hb hown (hts _ k_513) d_Integer_bitCount_4 ?_
  refine lv_iand hx hb d_Integer_bitCount_7 ?_
  refine lv_isub hx hb d_Integer_bitCount_8 ?_
  refine lv_istore_n (lv' := [(0, .int (x1 - (((x1.toUInt32 >>> ((1 : Int32).toUInt32 &&& Int32.toUInt32 31)).toInt32) &&& 1431655765)))]) hx hb d_Integer_bitCount_9 rfl hl (by decide) rfl (fun ls hl => ?_)
  refine lv_iload_n hx hb d_Integer_bitCount_10 rfl (lv_at hl 0 rfl) ?_
  refine lv_ldcw (v := 858993459) hx hb hown (hts _ k_514) d_Integer_bitCount_11 ?_
  refine lv_iand hx hb d_Integer_bitCount_14 ?_
  refine lv_iload_n hx hb d_Integer_bitCount_15 rfl (lv_at hl 0 rfl) ?_
  refine lv_iconst (v := 2) hx hb d_Integer_bitCount_16 (by decide) ?_
  refine lv_iushr hx hb d_Integer_bitCount_17 rfl ?_
  refine lv_ldcw (v := 858993459) hx hb hown (hts _ k_514) d_Integer_bitCount_18 ?_
  refine lv_iand hx hb d_Integer_bitCount_21 ?_
  refine lv_iadd hx hb d_Integer_bitCount_22 ?_
  refine lv_istore_n (lv' := [(0, .int (((x1 - (((x1.toUInt32 >>> ((1 : Int32).toUInt32 &&& Int32.toUInt32 31)).toInt32) &&& 1431655765)) &&& 858993459) + ((((x1 - (((x1.toUInt32 >>> ((1 : Int32).toUInt32 &&& Int32.toUInt32 31)).toInt32) &&& 1431655765)).toUInt32 >>> ((2 : Int32).toUInt32 &&& Int32.toUInt32 31)).toInt32) &&& 858993459)))]) hx hb d_Integer_bitCount_23 rfl hl (by decide) rfl (fun ls hl => ?_)
  refine lv_iload_n hx hb d_Integer_bitCount_24 rfl (lv_at hl 0 rfl) ?_
  refine lv_iload_n hx hb d_Integer_bitCount_25 rfl (lv_at hl 0 rfl) ?_
  refine lv_iconst (v := 4) hx hb d_Integer_bitCount_26 (by decide) ?_
  refine lv_iushr hx hb d_Integer_bitCount_27 rfl ?_
  refine lv_iadd hx hb d_Integer_bitCount_28 ?_
  refine lv_ldcw (v := 252645135) hx hb hown (hts _ k_515) d_Integer_bitCount_29 ?_
  refine lv_iand hx hb d_Integer_bitCount_32 ?_
  refine lv_istore_n (lv' := [(0, .int (((((x1 - (((x1.toUInt32 >>> ((1 : Int32).toUInt32 &&& Int32.toUInt32 31)).toInt32) &&& 1431655765)) &&& 858993459) + ((((x1 - (((x1.toUInt32 >>> ((1 : Int32).toUInt32 &&& Int32.toUInt32 31)).toInt32) &&& 1431655765)).toUInt32 >>> ((2 : Int32).toUInt32 &&& Int32.toUInt32 31)).toInt32) &&& 858993459)) + (((((x1 - (((x1.toUInt32 >>> ((1 : Int32).toUInt32 &&& Int32.toUInt32 31)).toInt32) &&& 1431655765)) &&& 858993459) + ((((x1 - (((x1.toUInt32 >>> ((1 : Int32).toUInt32 &&& Int32.toUInt32 31)).toInt32) &&& 1431655765)).toUInt32 >>> ((2 : Int32).toUInt32 &&& Int32.toUInt32 31)).toInt32) &&& 858993459)).toUInt32 >>> ((4 : Int32).toUInt32 &&& Int32.toUInt32 31)).toInt32)) &&& 252645135))]) hx hb d_Integer_bitCount_33 rfl hl (by decide) rfl (fun ls hl => ?_)
  refine lv_iload_n hx hb d_Integer_bitCount_34 rfl (lv_at hl 0 rfl) ?_
  refine lv_iload_n hx hb d_Integer_bitCount_35 rfl (lv_at hl 0 rfl) ?_
  refine lv_bipush (v := 8) hx hb d_Integer_bitCount_36 (by decide) ?_
  refine lv_iushr hx hb d_Integer_bitCount_38 rfl ?_
  refine lv_iadd hx hb d_Integer_bitCount_39 ?_
  refine lv_istore_n (lv' := [(0, .int ((((((x1 - (((x1.toUInt32 >>> ((1 : Int32).toUInt32 &&& Int32.toUInt32 31)).toInt32) &&& 1431655765)) &&& 858993459) + ((((x1 - (((x1.toUInt32 >>> ((1 : Int32).toUInt32 &&& Int32.toUInt32 31)).toInt32) &&& 1431655765)).toUInt32 >>> ((2 : Int32).toUInt32 &&& Int32.toUInt32 31)).toInt32) &&& 858993459)) + (((((x1 - (((x1.toUInt32 >>> ((1 : Int32).toUInt32 &&& Int32.toUInt32 31)).toInt32) &&& 1431655765)) &&& 858993459) + ((((x1 - (((x1.toUInt32 >>> ((1 : Int32).toUInt32 &&& Int32.toUInt32 31)).toInt32) &&& 1431655765)).toUInt32 >>> ((2 : Int32).toUInt32 &&& Int32.toUInt32 31)).toInt32) &&& 858993459)).toUInt32 >>> ((4 : Int32).toUInt32 &&& Int32.toUInt32 31)).toInt32)) &&& 252645135) + (((((((x1 - (((x1.toUInt32 >>> ((1 : Int32).toUInt32 &&& Int32.toUInt32 31)).toInt32) &&& 1431655765)) &&& 858993459) + ((((x1 - (((x1.toUInt32 >>> ((1 : Int32).toUInt32 &&& Int32.toUInt32 31)).toInt32) &&& 1431655765)).toUInt32 >>> ((2 : Int32).toUInt32 &&& Int32.toUInt32 31)).toInt32) &&& 858993459)) + (((((x1 - (((x1.toUInt32 >>> ((1 : Int32).toUInt32 &&& Int32.toUInt32 31)).toInt32) &&& 1431655765)) &&& 858993459) + ((((x1 - (((x1.toUInt32 >>> ((1 : Int32).toUInt32 &&& Int32.toUInt32 31)).toInt32) &&& 1431655765)).toUInt32 >>> ((2 : Int32).toUInt32 &&& Int32.toUInt32 31)).toInt32) &&& 858993459)).toUInt32 >>> ((4 : Int32).toUInt32 &&& Int32.toUInt32 31)).toInt32)) &&& 252645135).toUInt32 >>> ((8 : Int32).toUInt32 &&& Int32.toUInt32 31)).toInt32)))]) hx hb d_Integer_bitCount_40 rfl hl (by decide) rfl (fun ls hl => ?_)
  refine lv_iload_n hx hb d_Integer_bitCount_41 rfl (lv_at hl 0 rfl) ?_
  refine lv_iload_n hx hb d_Integer_bitCount_42 rfl (lv_at hl 0 rfl) ?_
  refine lv_bipush (v := 16) hx hb d_Integer_bitCount_43 (by decide) ?_
  refine lv_iushr hx hb d_Integer_bitCount_45 rfl ?_
  refine lv_iadd hx hb d_Integer_bitCount_46 ?_
  refine lv_istore_n (lv' := [(0, .int (((((((x1 - (((x1.toUInt32 >>> ((1 : Int32).toUInt32 &&& Int32.toUInt32 31)).toInt32) &&& 1431655765)) &&& 858993459) + ((((x1 - (((x1.toUInt32 >>> ((1 : Int32).toUInt32 &&& Int32.toUInt32 31)).toInt32) &&& 1431655765)).toUInt32 >>> ((2 : Int32).toUInt32 &&& Int32.toUInt32 31)).toInt32) &&& 858993459)) + (((((x1 - (((x1.toUInt32 >>> ((1 : Int32).toUInt32 &&& Int32.toUInt32 31)).toInt32) &&& 1431655765)) &&& 858993459) + ((((x1 - (((x1.toUInt32 >>> ((1 : Int32).toUInt32 &&& Int32.toUInt32 31)).toInt32) &&& 1431655765)).toUInt32 >>> ((2 : Int32).toUInt32 &&& Int32.toUInt32 31)).toInt32) &&& 858993459)).toUInt32 >>> ((4 : Int32).toUInt32 &&& Int32.toUInt32 31)).toInt32)) &&& 252645135) + (((((((x1 - (((x1.toUInt32 >>> ((1 : Int32).toUInt32 &&& Int32.toUInt32 31)).toInt32) &&& 1431655765)) &&& 858993459) + ((((x1 - (((x1.toUInt32 >>> ((1 : Int32).toUInt32 &&& Int32.toUInt32 31)).toInt32) &&& 1431655765)).toUInt32 >>> ((2 : Int32).toUInt32 &&& Int32.toUInt32 31)).toInt32) &&& 858993459)) + (((((x1 - (((x1.toUInt32 >>> ((1 : Int32).toUInt32 &&& Int32.toUInt32 31)).toInt32) &&& 1431655765)) &&& 858993459) + ((((x1 - (((x1.toUInt32 >>> ((1 : Int32).toUInt32 &&& Int32.toUInt32 31)).toInt32) &&& 1431655765)).toUInt32 >>> ((2 : Int32).toUInt32 &&& Int32.toUInt32 31)).toInt32) &&& 858993459)).toUInt32 >>> ((4 : Int32).toUInt32 &&& Int32.toUInt32 31)).toInt32)) &&& 252645135).toUInt32 >>> ((8 : Int32).toUInt32 &&& Int32.toUInt32 31)).toInt32)) + ((((((((x1 - (((x1.toUInt32 >>> ((1 : Int32).toUInt32 &&& Int32.toUInt32 31)).toInt32) &&& 1431655765)) &&& 858993459) + ((((x1 - (((x1.toUInt32 >>> ((1 : Int32).toUInt32 &&& Int32.toUInt32 31)).toInt32) &&& 1431655765)).toUInt32 >>> ((2 : Int32).toUInt32 &&& Int32.toUInt32 31)).toInt32) &&& 858993459)) + (((((x1 - (((x1.toUInt32 >>> ((1 : Int32).toUInt32 &&& Int32.toUInt32 31)).toInt32) &&& 1431655765)) &&& 858993459) + ((((x1 - (((x1.toUInt32 >>> ((1 : Int32).toUInt32 &&& Int32.toUInt32 31)).toInt32) &&& 1431655765)).toUInt32 >>> ((2 : Int32).toUInt32 &&& Int32.toUInt32 31)).toInt32) &&& 858993459)).toUInt32 >>> ((4 : Int32).toUInt32 &&& Int32.toUInt32 31)).toInt32)) &&& 252645135) + (((((((x1 - (((x1.toUInt32 >>> ((1 : Int32).toUInt32 &&& Int32.toUInt32 31)).toInt32) &&& 1431655765)) &&& 858993459) + ((((x1 - (((x1.toUInt32 >>> ((1 : Int32).toUInt32 &&& Int32.toUInt32 31)).toInt32) &&& 1431655765)).toUInt32 >>> ((2 : Int32).toUInt32 &&& Int32.toUInt32 31)).toInt32) &&& 858993459)) + (((((x1 - (((x1.toUInt32 >>> ((1 : Int32).toUInt32 &&& Int32.toUInt32 31)).toInt32) &&& 1431655765)) &&& 858993459) + ((((x1 - (((x1.toUInt32 >>> ((1 : Int32).toUInt32 &&& Int32.toUInt32 31)).toInt32) &&& 1431655765)).toUInt32 >>> ((2 : Int32).toUInt32 &&& Int32.toUInt32 31)).toInt32) &&& 858993459)).toUInt32 >>> ((4 : Int32).toUInt32 &&& Int32.toUInt32 31)).toInt32)) &&& 252645135).toUInt32 >>> ((8 : Int32).toUInt32 &&& Int32.toUInt32 31)).toInt32)).toUInt32 >>> ((16 : Int32).toUInt32 &&& Int32.toUInt32 31)).toInt32)))]) hx hb d_Integer_bitCount_47 rfl hl (by decide) rfl (fun ls hl => ?_)
  refine lv_iload_n hx hb d_Integer_bitCount_48 rfl (lv_at hl 0 rfl) ?_
  refine lv_bipush (v := 63) hx hb d_Integer_bitCount_49 (by decide) ?_
  refine lv_iand hx hb d_Integer_bitCount_51 ?_
  exact q_iret hx hb hr hlocks h hP hD hS d_Integer_bitCount_52
def x_addressRegisters (z0 : ST) : OR := obn (x_Integer_bitCount z0 (z0.1 2)) (fun r1 z1 => some (r1, z1))
set_option maxRecDepth 100000 in
set_option maxHeartbeats 4000000 in
theorem c_x_addressRegisters (l : Launch) (dC : Nat → ClassId) (dI : Nat → Nat → Nat) (cI cZ : ClassId) (ad : Nat → Nat) (z0 : ST) (R : Int32 × ST) (h : x_addressRegisters z0 = some R) : qMi l y_SlippedStreams_addressRegisters w_SlippedStreams_addressRegisters 1 20 (KX dC dI cI cZ) (dC, dI) q_cl (wX cI cZ ad) [.ref (ad 0)] z0 R := by
  intro sz
  refine Met.ofW (cc := b_SlippedStreams_addressRegisters) (maxL := 1) (ret := (some .int)) (by decide) rfl ?_
  intro p e s m args below meth c s₁ B hml hv
  obtain ⟨rfl, hsz, hP, hKK, hD0⟩ := hv
  have hx := B.exec
  have hb := B.bytes
  have hr := B.returns
  have hts : ∀ w ∈ q_big, w.before _ s = true := fun w h => atoms_spec (ws := w_SlippedStreams_addressRegisters) B.pre w (List.mem_cons_of_mem _ h)
  have hown : s.vm.findClass "SlippedStreams" = some m.cls := findClass_of_methodNamed B.named
  have hlocks := B.notSynchronized
  subst hsz
  have hD := hD0.self (sz := s.heap.size)
  generalize hAe : va_A (wX cI cZ ad z0) s.heap.size = A at hD ⊢
  have hA : ∀ q : Nat, s.heap.size ≤ q → A q := fun q h => by rw [← hAe]; exact Or.inr h
  have hS : va_S A s.heap s.heap [] := va_S.rf
  have hK := hKK.1
  have hl := lv_entry ([.ref (ad 0)]) (n := 1) (Nat.le_of_ble_eq_true rfl)
  rw [lg_entry_eq]
  generalize (lg_sl ([.ref (ad 0)]) ++ List.replicate (1 - (lg_sl ([.ref (ad 0)])).length) Slot.unset).toArray = ls at hl ⊢
  have hl : lv_has ls 1 [(0, .ref (ad 0))] := hl
  unfold x_addressRegisters at h
  refine lv_aload_n hx hb d_SlippedStreams_addressRegisters_0 rfl (lv_at hl 0 rfl) ?_
  refine xg_0_program hx hb hts hin_SlippedStreams hown hK hP (hts _ k_361) (fun _ h9 => h9) d_SlippedStreams_addressRegisters_1 ?_
  refine xg_1_addressMask hx hb hts hin_Program hown hK hP (hts _ k_119) (fun _ h9 => h9) d_SlippedStreams_addressRegisters_4 ?_
  obtain ⟨r1, z1, hc1, h⟩ := obn_e h
  refine q_goi (va_runS (As := [.int (z0.1 2)]) (rest := []) ⟨hx, hb, hml, hown, hts⟩ (c_x_Integer_bitCount l dC dI cI cZ ad z0 (z0.1 2) _ hc1 _) (va_cwS 1 hts (q_goodL _ (q_l3 k_510 k_511 k_67) k_512) rfl rfl rfl (by decide +kernel) ⟨Nat.le_of_ble_eq_true rfl, Nat.le_of_ble_eq_true rfl⟩) (q_preS qok hKK hP hD) rfl rfl hl.1 rfl (lv_room (Nat.le_of_ble_eq_true rfl)) d_SlippedStreams_addressRegisters_7 ⟨Nat.le_refl _, Nat.le_refl _⟩) hD hS hA (fun H locs hP hD hS => ?_)
  exact q_iret hx hb hr hlocks h hP hD hS d_SlippedStreams_addressRegisters_10
def x_isMoveCount (z0 : ST) (x1 : Int32) : OR := if x1 < 1 then (gib 0 (some (0, z0))) else (if 50 < x1 then (gib 0 (some (0, z0))) else (gib 1 (some (1, z0))))
set_option maxRecDepth 100000 in
set_option maxHeartbeats 4000000 in
theorem c_x_isMoveCount (l : Launch) (dC : Nat → ClassId) (dI : Nat → Nat → Nat) (cI cZ : ClassId) (ad : Nat → Nat) (z0 : ST) (x1 : Int32) (R : Int32 × ST) (h : x_isMoveCount z0 x1 = some R) : qMi l y_SlippedStreams_isMoveCount w_SlippedStreams_isMoveCount 0 0 (KX dC dI cI cZ) (dC, dI) q_cl (wX cI cZ ad) [.int x1] z0 R := by
  intro sz
  refine Met.ofW (cc := b_SlippedStreams_isMoveCount) (maxL := 1) (ret := (some .boolean)) (by decide) rfl ?_
  intro p e s m args below meth c s₁ B hml hv
  obtain ⟨rfl, hsz, hP, hKK, hD0⟩ := hv
  have hx := B.exec
  have hb := B.bytes
  have hr := B.returns
  have hts : ∀ w ∈ q_big, w.before _ s = true := fun w h => atoms_spec (ws := w_SlippedStreams_isMoveCount) B.pre w (List.mem_cons_of_mem _ h)
  have hown : s.vm.findClass "SlippedStreams" = some m.cls := findClass_of_methodNamed B.named
  have hlocks := B.notSynchronized
  subst hsz
  have hD := hD0.self (sz := s.heap.size)
  generalize hAe : va_A (wX cI cZ ad z0) s.heap.size = A at hD ⊢
  have hA : ∀ q : Nat, s.heap.size ≤ q → A q := fun q h => by rw [← hAe]; exact Or.inr h
  have hS : va_S A s.heap s.heap [] := va_S.rf
  have hK := hKK.1
  have hl := lv_entry ([.int x1]) (n := 1) (Nat.le_of_ble_eq_true rfl)
  rw [lg_entry_eq]
  generalize (lg_sl ([.int x1]) ++ List.replicate (1 - (lg_sl ([.int x1])).length) Slot.unset).toArray = ls at hl ⊢
  have hl : lv_has ls 1 [(0, .int x1)] := hl
  unfold x_isMoveCount at h
  refine lv_iload_n hx hb d_SlippedStreams_isMoveCount_0 rfl (lv_at hl 0 rfl) ?_
  refine lv_iconst (v := 1) hx hb d_SlippedStreams_isMoveCount_1 (by decide) ?_
  refine lv_icmp_lt (tgt := 15) hx hb d_SlippedStreams_isMoveCount_2 (by decide) (fun hc => ?_) (fun hc => ?_)
  · replace h := if_t hc h
    refine lv_iconst (v := 0) hx hb d_SlippedStreams_isMoveCount_15 (by decide) ?_
    exact q_zret hx hb hr hlocks h hP hD hS d_SlippedStreams_isMoveCount_16
  · replace h := if_f hc h
    refine lv_iload_n hx hb d_SlippedStreams_isMoveCount_5 rfl (lv_at hl 0 rfl) ?_
    refine lv_bipush (v := 50) hx hb d_SlippedStreams_isMoveCount_6 (by decide) ?_
    refine lv_icmp_gt (tgt := 15) hx hb d_SlippedStreams_isMoveCount_8 (by decide) (fun hc => ?_) (fun hc => ?_)
    · replace h := if_t hc h
      refine lv_iconst (v := 0) hx hb d_SlippedStreams_isMoveCount_15 (by decide) ?_
      exact q_zret hx hb hr hlocks h hP hD hS d_SlippedStreams_isMoveCount_16
    · replace h := if_f hc h
      refine lv_iconst (v := 1) hx hb d_SlippedStreams_isMoveCount_11 (by decide) ?_
      refine lv_goto (tgt := 16) hx hb d_SlippedStreams_isMoveCount_12 (by decide) ?_
      exact q_zret hx hb hr hlocks h hP hD hS d_SlippedStreams_isMoveCount_16
def x_Run_hasEnded_29 (z0 : ST) : OR := if (z0.1 15) < (z0.1 1) then (gib 0 (some (0, z0))) else (gib 1 (some (1, z0)))
set_option maxRecDepth 100000 in
set_option maxHeartbeats 4000000 in
theorem c_x_Run_hasEnded_29 (l : Launch) (dC : Nat → ClassId) (dI : Nat → Nat → Nat) (cI cZ : ClassId) (ad : Nat → Nat) (z0 : ST) (R : Int32 × ST) (h : x_Run_hasEnded_29 z0 = some R) : qMi l y_Run_hasEnded w_Run_hasEnded 0 0 (KX dC dI cI cZ) (dC, dI) q_cl (wX cI cZ ad) [.ref (ad 29)] z0 R := by
  intro sz
  refine Met.ofW (cc := b_Run_hasEnded) (maxL := 1) (ret := (some .boolean)) (by decide) rfl ?_
  intro p e s m args below meth c s₁ B hml hv
  obtain ⟨rfl, hsz, hP, hKK, hD0⟩ := hv
  have hx := B.exec
  have hb := B.bytes
  have hr := B.returns
  have hts : ∀ w ∈ q_big, w.before _ s = true := fun w h => atoms_spec (ws := w_Run_hasEnded) B.pre w (List.mem_cons_of_mem _ h)
  have hown : s.vm.findClass "SlippedStreams$Run" = some m.cls := findClass_of_methodNamed B.named
  have hlocks := B.notSynchronized
  subst hsz
  have hD := hD0.self (sz := s.heap.size)
  generalize hAe : va_A (wX cI cZ ad z0) s.heap.size = A at hD ⊢
  have hA : ∀ q : Nat, s.heap.size ≤ q → A q := fun q h => by rw [← hAe]; exact Or.inr h
  have hS : va_S A s.heap s.heap [] := va_S.rf
  have hK := hKK.1
  have hl := lv_entry ([.ref (ad 29)]) (n := 1) (Nat.le_of_ble_eq_true rfl)
  rw [lg_entry_eq]
  generalize (lg_sl ([.ref (ad 29)]) ++ List.replicate (1 - (lg_sl ([.ref (ad 29)])).length) Slot.unset).toArray = ls at hl ⊢
  have hl : lv_has ls 1 [(0, .ref (ad 29))] := hl
  unfold x_Run_hasEnded_29 at h
  refine lv_aload_n hx hb d_Run_hasEnded_0 rfl (lv_at hl 0 rfl) ?_
  refine xg_29_at hx hb hts hin_AddressStream hown hK hP (hts _ k_294) (fun _ h9 => h9) d_Run_hasEnded_1 ?_
  refine lv_aload_n hx hb d_Run_hasEnded_4 rfl (lv_at hl 0 rfl) ?_
  refine xg_29_program hx hb hts hin_AddressStream hown hK hP (hts _ k_265) (fun _ h9 => h9) d_Run_hasEnded_5 ?_
  refine xg_1_size hx hb hts hin_Program hown hK hP (hts _ k_116) (fun _ h9 => h9) d_Run_hasEnded_8 ?_
  refine lv_icmp_lt (tgt := 18) hx hb d_Run_hasEnded_11 (by decide) (fun hc => ?_) (fun hc => ?_)
  · replace h := if_t hc h
    refine lv_iconst (v := 0) hx hb d_Run_hasEnded_18 (by decide) ?_
    exact q_zret hx hb hr hlocks h hP hD hS d_Run_hasEnded_19
  · replace h := if_f hc h
    refine lv_iconst (v := 1) hx hb d_Run_hasEnded_14 (by decide) ?_
    refine lv_goto (tgt := 19) hx hb d_Run_hasEnded_15 (by decide) ?_
    exact q_zret hx hb hr hlocks h hP hD hS d_Run_hasEnded_19
def x_AddressStream_isAtOutcome_29 (z0 : ST) : OR := obn (x_Run_hasEnded_29 z0) (fun r1 z1 => if r1 = 0 then (gin (z1.1 15) 24 (if (z1.2 4 (z1.1 15).toNatClampNeg) = 1 then (obn (x_Program_isBranch_1 z1 (z1.1 15)) (fun r2 z2 => if r2 = 0 then (gib 0 (some (0, z2))) else (if (z2.1 17) = 0 then (gin (z2.1 15) 24 (if (z2.2 7 (z2.1 15).toNatClampNeg) = 0 then (gib 1 (some (1, z2))) else (gib 0 (some (0, z2))))) else (gib 1 (some (1, z2)))))) else (gib 0 (some (0, z1))))) else (gib 0 (some (0, z1))))
set_option maxRecDepth 100000 in
set_option maxHeartbeats 4000000 in
theorem c_x_AddressStream_isAtOutcome_29 (l : Launch) (dC : Nat → ClassId) (dI : Nat → Nat → Nat) (cI cZ : ClassId) (ad : Nat → Nat) (z0 : ST) (R : Int32 × ST) (h : x_AddressStream_isAtOutcome_29 z0 = some R) : qMi l y_AddressStream_isAtOutcome w_AddressStream_isAtOutcome 1 21 (KX dC dI cI cZ) (dC, dI) q_cl (wX cI cZ ad) [.ref (ad 29)] z0 R := by
  intro sz
  refine Met.ofW (cc := b_AddressStream_isAtOutcome) (maxL := 1) (ret := (some .boolean)) (by decide) rfl ?_
  intro p e s m args below meth c s₁ B hml hv
  obtain ⟨rfl, hsz, hP, hKK, hD0⟩ := hv
  have hx := B.exec
  have hb := B.bytes
  have hr := B.returns
  have hts : ∀ w ∈ q_big, w.before _ s = true := fun w h => atoms_spec (ws := w_AddressStream_isAtOutcome) B.pre w (List.mem_cons_of_mem _ h)
  have hown : s.vm.findClass "SlippedStreams$AddressStream" = some m.cls := findClass_of_methodNamed B.named
  have hlocks := B.notSynchronized
  subst hsz
  have hD := hD0.self (sz := s.heap.size)
  generalize hAe : va_A (wX cI cZ ad z0) s.heap.size = A at hD ⊢
  have hA : ∀ q : Nat, s.heap.size ≤ q → A q := fun q h => by rw [← hAe]; exact Or.inr h
  have hS : va_S A s.heap s.heap [] := va_S.rf
  have hK := hKK.1
  have hl := lv_entry ([.ref (ad 29)]) (n := 1) (Nat.le_of_ble_eq_true rfl)
  rw [lg_entry_eq]
  generalize (lg_sl ([.ref (ad 29)]) ++ List.replicate (1 - (lg_sl ([.ref (ad 29)])).length) Slot.unset).toArray = ls at hl ⊢
  have hl : lv_has ls 1 [(0, .ref (ad 29))] := hl
  unfold x_AddressStream_isAtOutcome_29 at h
  refine lv_aload_n hx hb d_AddressStream_isAtOutcome_0 rfl (lv_at hl 0 rfl) ?_
  obtain ⟨r1, z1, hc1, h⟩ := obn_e h
  refine q_goi (va_runU (As := []) (rest := []) ⟨hx, hb, hml, hown, hts⟩ (c_x_Run_hasEnded_29 l dC dI cI cZ ad z0 _ hc1 _) (va_cwU 0 hts (q_goodL _ (q_l5 k_535 k_536 k_538 k_539 k_58) k_540) rfl rfl rfl rfl (by decide +kernel) ⟨Nat.le_of_ble_eq_true rfl, Nat.le_of_ble_eq_true rfl⟩) (q_preV qok hKK hP hD (va_recv (ci := 5) (q0 := 29) hK hP rfl rfl)) rfl rfl hl.1 rfl (lv_room (Nat.le_of_ble_eq_true rfl)) d_AddressStream_isAtOutcome_1 ⟨Nat.le_refl _, Nat.le_refl _⟩) hD hS hA (fun H locs hP hD hS => ?_)
  refine lv_if_ne (tgt := 63) hx hb d_AddressStream_isAtOutcome_4 (by decide) (fun hc => ?_) (fun hc => ?_)
  · replace h := if_f hc h
    refine lv_iconst (v := 0) hx hb d_AddressStream_isAtOutcome_63 (by decide) ?_
    exact q_zret hx hb hr hlocks h hP hD hS d_AddressStream_isAtOutcome_64
  · replace h := if_t hc h
    refine lv_aload_n hx hb d_AddressStream_isAtOutcome_7 rfl (lv_at hl 0 rfl) ?_
    refine xg_29_program hx hb hts hin_AddressStream hown hK hP (hts _ k_266) (fun x9 h9 => u_same (hts _ k_267) x9 h9) d_AddressStream_isAtOutcome_8 ?_
    refine xg_1_streams hx hb hts hin_Program hown hK hP (hts _ k_98) (fun _ h9 => h9) d_AddressStream_isAtOutcome_11 ?_
    refine lv_aload_n hx hb d_AddressStream_isAtOutcome_14 rfl (lv_at hl 0 rfl) ?_
    refine xg_29_at hx hb hts hin_AddressStream hown hK hP (hts _ k_290) (fun x9 h9 => u_same (hts _ k_291) x9 h9) d_AddressStream_isAtOutcome_15 ?_
    obtain ⟨hi, h⟩ := gin_e h
    refine xl_4 hx hb hK hP hi d_AddressStream_isAtOutcome_18 ?_
    refine lv_iconst (v := 1) hx hb d_AddressStream_isAtOutcome_19 (by decide) ?_
    refine lv_icmp_ne (tgt := 63) hx hb d_AddressStream_isAtOutcome_20 (by decide) (fun hc => ?_) (fun hc => ?_)
    · replace h := if_f hc h
      refine lv_iconst (v := 0) hx hb d_AddressStream_isAtOutcome_63 (by decide) ?_
      exact q_zret hx hb hr hlocks h hP hD hS d_AddressStream_isAtOutcome_64
    · replace h := if_t hc h
      refine lv_aload_n hx hb d_AddressStream_isAtOutcome_23 rfl (lv_at hl 0 rfl) ?_
      refine xg_29_program hx hb hts hin_AddressStream hown hK hP (hts _ k_266) (fun x9 h9 => u_same (hts _ k_267) x9 h9) d_AddressStream_isAtOutcome_24 ?_
      refine lv_aload_n hx hb d_AddressStream_isAtOutcome_27 rfl (lv_at hl 0 rfl) ?_
      refine xg_29_at hx hb hts hin_AddressStream hown hK hP (hts _ k_290) (fun x9 h9 => u_same (hts _ k_291) x9 h9) d_AddressStream_isAtOutcome_28 ?_
      obtain ⟨r2, z2, hc2, h⟩ := obn_e h
      refine q_goi (va_runV (As := [.int (z1.1 15)]) (rest := []) ⟨hx, hb, hml, hown, hts⟩ (c_x_Program_isBranch_1 l dC dI cI cZ ad z1 (z1.1 15) _ hc2 _) (cwV 1 hts (q_goodL _ (q_l4 k_647 k_418 k_419 k_54) k_420) rfl rfl rfl (by decide +kernel) ⟨Nat.le_of_ble_eq_true rfl, Nat.le_of_ble_eq_true rfl⟩) (q_preV qok hKK hP hD (va_recv (ci := 1) (q0 := 1) hK hP rfl rfl)) rfl rfl hl.1 rfl (lv_room (Nat.le_of_ble_eq_true rfl)) d_AddressStream_isAtOutcome_31 ⟨Nat.le_refl _, Nat.le_refl _⟩) hD hS hA (fun H locs hP hD hS => ?_)
      refine lv_if_eq (tgt := 63) hx hb d_AddressStream_isAtOutcome_34 (by decide) (fun hc => ?_) (fun hc => ?_)
      · replace h := if_t hc h
        refine lv_iconst (v := 0) hx hb d_AddressStream_isAtOutcome_63 (by decide) ?_
        exact q_zret hx hb hr hlocks h hP hD hS d_AddressStream_isAtOutcome_64
      · replace h := if_f hc h
        refine lv_aload_n hx hb d_AddressStream_isAtOutcome_37 rfl (lv_at hl 0 rfl) ?_
        refine xg_29_handed hx hb hts hin_AddressStream hown hK hP (hts _ k_253) (fun _ h9 => h9) d_AddressStream_isAtOutcome_38 ?_
        refine lv_if_ne (tgt := 59) hx hb d_AddressStream_isAtOutcome_41 (by decide) (fun hc => ?_) (fun hc => ?_)
        · replace h := if_f hc h
          refine lv_iconst (v := 1) hx hb d_AddressStream_isAtOutcome_59 (by decide) ?_
          refine lv_goto (tgt := 64) hx hb d_AddressStream_isAtOutcome_60 (by decide) ?_
          exact q_zret hx hb hr hlocks h hP hD hS d_AddressStream_isAtOutcome_64
        · replace h := if_t hc h
          refine lv_aload_n hx hb d_AddressStream_isAtOutcome_44 rfl (lv_at hl 0 rfl) ?_
          refine xg_29_program hx hb hts hin_AddressStream hown hK hP (hts _ k_266) (fun x9 h9 => u_same (hts _ k_267) x9 h9) d_AddressStream_isAtOutcome_45 ?_
          refine xg_1_passedCounts hx hb hts hin_Program hown hK hP (hts _ k_108) (fun _ h9 => h9) d_AddressStream_isAtOutcome_48 ?_
          refine lv_aload_n hx hb d_AddressStream_isAtOutcome_51 rfl (lv_at hl 0 rfl) ?_
          refine xg_29_at hx hb hts hin_AddressStream hown hK hP (hts _ k_290) (fun x9 h9 => u_same (hts _ k_291) x9 h9) d_AddressStream_isAtOutcome_52 ?_
          obtain ⟨hi, h⟩ := gin_e h
          refine xl_7 hx hb hK hP hi d_AddressStream_isAtOutcome_55 ?_
          refine lv_if_ne (tgt := 63) hx hb d_AddressStream_isAtOutcome_56 (by decide) (fun hc => ?_) (fun hc => ?_)
          · replace h := if_f hc h
            refine lv_iconst (v := 0) hx hb d_AddressStream_isAtOutcome_63 (by decide) ?_
            exact q_zret hx hb hr hlocks h hP hD hS d_AddressStream_isAtOutcome_64
          · replace h := if_t hc h
            refine lv_iconst (v := 1) hx hb d_AddressStream_isAtOutcome_59 (by decide) ?_
            refine lv_goto (tgt := 64) hx hb d_AddressStream_isAtOutcome_60 (by decide) ?_
            exact q_zret hx hb hr hlocks h hP hD hS d_AddressStream_isAtOutcome_64
