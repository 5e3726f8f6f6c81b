def x_Run_combined_29 (z0 : ST) (x1 : Int32) : OR := gin x1 24 (gin (z0.2 2 x1.toNatClampNeg) 8 (gin x1 24 (gin (z0.2 3 x1.toNatClampNeg) 8 (gin x1 24 (if z0.2 0 x1.toNatClampNeg = 1 then (some ((z0.2 20 (z0.2 2 x1.toNatClampNeg).toNatClampNeg) + (z0.2 20 (z0.2 3 x1.toNatClampNeg).toNatClampNeg), z0)) else (if z0.2 0 x1.toNatClampNeg = 2 then (some ((z0.2 20 (z0.2 2 x1.toNatClampNeg).toNatClampNeg) - (z0.2 20 (z0.2 3 x1.toNatClampNeg).toNatClampNeg), z0)) else (some ((z0.2 20 (z0.2 2 x1.toNatClampNeg).toNatClampNeg) * (z0.2 20 (z0.2 3 x1.toNatClampNeg).toNatClampNeg), z0))))))))
set_option maxRecDepth 100000 in
set_option maxHeartbeats 4000000 in
theorem c_x_Run_combined_29 (l : Launch) (dC : Nat → ClassId) (dI : Nat → Nat → Nat) (cI cZ : ClassId) (ad : Nat → Nat) (z0 : ST) (x1 : Int32) (R : Int32 × ST) (h : x_Run_combined_29 z0 x1 = some R) : qMi l y_Run_combined w_Run_combined 0 0 (KX dC dI cI cZ) (dC, dI) q_cl (wX cI cZ ad) [.ref (ad 29), .int x1] z0 R := by
  intro sz
  refine Met.ofW (cc := b_Run_combined) (maxL := 4) (ret := (some .int)) (by decide) rfl ?_
  intro p e s m args below meth c s₁ B hml hv
  obtain ⟨rfl, hsz, hP, hKK, hD0⟩ := hv
  have hx := B.exec
  have hb := B.bytes
  have hr := B.returns
  have hts : ∀ w ∈ q_big, w.before _ s = true := fun w h => atoms_spec (ws := w_Run_combined) B.pre w (List.mem_cons_of_mem _ h)
  have hown : s.vm.findClass "SlippedStreams$Run" = some m.cls := findClass_of_methodNamed B.named
  have hlocks := B.notSynchronized
  subst hsz
  have hD := hD0.self (sz := s.heap.size)
  generalize hAe : va_A (wX cI cZ ad z0) s.heap.size = A at hD ⊢
  have hA : ∀ q : Nat, s.heap.size ≤ q → A q := fun q h => by rw [← hAe]; exact Or.inr h
  have hS : va_S A s.heap s.heap [] := va_S.rf
  have hK := hKK.1
  have hl := lv_entry ([.ref (ad 29), .int x1]) (n := 4) (Nat.le_of_ble_eq_true rfl)
  rw [lg_entry_eq]
  generalize (lg_sl ([.ref (ad 29), .int x1]) ++ List.replicate (4 - (lg_sl ([.ref (ad 29), .int x1])).length) Slot.unset).toArray = ls at hl ⊢
  have hl : lv_has ls 4 [(0, .ref (ad 29)), (1, .int x1)] := hl
  unfold x_Run_combined_29 at h
  refine lv_aload_n hx hb d_Run_combined_0 rfl (lv_at hl 0 rfl) ?_
  refine xg_29_registers hx hb hts hin_AddressStream hown hK hP (hts _ k_274) (fun _ h9 => h9) d_Run_combined_1 ?_
  refine lv_aload_n hx hb d_Run_combined_4 rfl (lv_at hl 0 rfl) ?_
  refine xg_29_program hx hb hts hin_AddressStream hown hK hP (hts _ k_265) (fun _ h9 => h9) d_Run_combined_5 ?_
  refine xg_1_bs hx hb hts hin_Program hown hK hP (hts _ k_94) (fun _ h9 => h9) d_Run_combined_8 ?_
  refine lv_iload_n hx hb d_Run_combined_11 rfl (lv_at hl 1 rfl) ?_
  obtain ⟨hi, h⟩ := gin_e h
  refine xl_2 hx hb hK hP hi d_Run_combined_12 ?_
  obtain ⟨hi, h⟩ := gin_e h
  refine xl_20 hx hb hK hP hi d_Run_combined_13 ?_
  refine lv_istore_n (lv' := [(2, .int (z0.2 20 (z0.2 2 x1.toNatClampNeg).toNatClampNeg)), (0, .ref (ad 29)), (1, .int x1)]) hx hb d_Run_combined_14 rfl hl (by decide) rfl (fun ls hl => ?_)
  refine lv_aload_n hx hb d_Run_combined_15 rfl (lv_at hl 1 rfl) ?_
  refine xg_29_registers hx hb hts hin_AddressStream hown hK hP (hts _ k_274) (fun _ h9 => h9) d_Run_combined_16 ?_
  refine lv_aload_n hx hb d_Run_combined_19 rfl (lv_at hl 1 rfl) ?_
  refine xg_29_program hx hb hts hin_AddressStream hown hK hP (hts _ k_265) (fun _ h9 => h9) d_Run_combined_20 ?_
  refine xg_1_cs hx hb hts hin_Program hown hK hP (hts _ k_96) (fun _ h9 => h9) d_Run_combined_23 ?_
  refine lv_iload_n hx hb d_Run_combined_26 rfl (lv_at hl 2 rfl) ?_
  obtain ⟨hi, h⟩ := gin_e h
  refine xl_3 hx hb hK hP hi d_Run_combined_27 ?_
  obtain ⟨hi, h⟩ := gin_e h
  refine xl_20 hx hb hK hP hi d_Run_combined_28 ?_
  refine lv_istore_n (lv' := [(3, .int (z0.2 20 (z0.2 3 x1.toNatClampNeg).toNatClampNeg)), (2, .int (z0.2 20 (z0.2 2 x1.toNatClampNeg).toNatClampNeg)), (0, .ref (ad 29)), (1, .int x1)]) hx hb d_Run_combined_29 rfl hl (by decide) rfl (fun ls hl => ?_)
  refine lv_aload_n hx hb d_Run_combined_30 rfl (lv_at hl 2 rfl) ?_
  refine xg_29_program hx hb hts hin_AddressStream hown hK hP (hts _ k_265) (fun _ h9 => h9) d_Run_combined_31 ?_
  refine xg_1_kinds hx hb hts hin_Program hown hK hP (hts _ k_87) (fun _ h9 => h9) d_Run_combined_34 ?_
  refine lv_iload_n hx hb d_Run_combined_37 rfl (lv_at hl 3 rfl) ?_
  obtain ⟨hi, h⟩ := gin_e h
  refine xl_0 hx hb hK hP hi d_Run_combined_38 ?_
  by_cases hc0 : z0.2 0 x1.toNatClampNeg = 1
  · replace h := if_t hc0 h
    refine lv_lookup (tgt := 64) (off := 25) hx hb d_Run_combined_39 (by decide) (by rw [hc0]; rfl) (by decide) ?_
    refine lv_iload_n hx hb d_Run_combined_64 rfl (lv_at hl 1 rfl) ?_
    refine lv_iload_n hx hb d_Run_combined_65 rfl (lv_at hl 0 rfl) ?_
    refine lv_iadd hx hb d_Run_combined_66 ?_
    exact q_iret hx hb hr hlocks h hP hD hS d_Run_combined_67
  · replace h := if_f hc0 h
    by_cases hc1 : z0.2 0 x1.toNatClampNeg = 2
    · replace h := if_t hc1 h
      refine lv_lookup (tgt := 68) (off := 29) hx hb d_Run_combined_39 (by decide) (by rw [hc1]; rfl) (by decide) ?_
      refine lv_iload_n hx hb d_Run_combined_68 rfl (lv_at hl 1 rfl) ?_
      refine lv_iload_n hx hb d_Run_combined_69 rfl (lv_at hl 0 rfl) ?_
      refine lv_isub hx hb d_Run_combined_70 ?_
      exact q_iret hx hb hr hlocks h hP hD hS d_Run_combined_71
    · replace h := if_f hc1 h
      refine lv_lookup (tgt := 72) (off := 33) hx hb d_Run_combined_39 (by decide) ((lv_osw hc0 (by decide)).trans ((lv_osw hc1 (by decide)).trans rfl)) (by decide) ?_
      refine lv_iload_n hx hb d_Run_combined_72 rfl (lv_at hl 1 rfl) ?_
      refine lv_iload_n hx hb d_Run_combined_73 rfl (lv_at hl 0 rfl) ?_
      refine lv_imul hx hb d_Run_combined_74 ?_
      exact q_iret hx hb hr hlocks h hP hD hS d_Run_combined_75
def x_Run_compute_29_42 (z0 : ST) (y1 y2 y3 : Int32) : OR := gin y2 8 (bnd (stA z0 20 (upd (z0.2 20) y2.toNatClampNeg y3)) (fun z1 => some (0, z1)))
def x_Run_compute_29 (z0 : ST) (x1 : Int32) : OR := gin x1 24 (gin x1 24 (if (z0.2 0 x1.toNatClampNeg) = 0 then (gin x1 24 (x_Run_compute_29_42 z0 x1 (z0.2 1 x1.toNatClampNeg) (z0.2 3 x1.toNatClampNeg))) else (obn (x_Run_combined_29 z0 x1) (fun r2 z2 => x_Run_compute_29_42 z2 x1 (z0.2 1 x1.toNatClampNeg) r2))))
set_option maxRecDepth 100000 in
set_option maxHeartbeats 4000000 in
theorem c_x_Run_compute_29 (l : Launch) (dC : Nat → ClassId) (dI : Nat → Nat → Nat) (cI cZ : ClassId) (ad : Nat → Nat) (z0 : ST) (x1 : Int32) (R : Int32 × ST) (h : x_Run_compute_29 z0 x1 = some R) : qMv l y_Run_compute w_Run_compute 1 23 (KX dC dI cI cZ) (dC, dI) q_cl (wX cI cZ ad) [.ref (ad 29), .int x1] z0 R := by
  intro sz
  refine Met.ofW (cc := b_Run_compute) (maxL := 2) (ret := none) (by decide) rfl ?_
  intro p e s m args below meth c s₁ B hml hv
  obtain ⟨rfl, hsz, hP, hKK, hD0⟩ := hv
  have hx := B.exec
  have hb := B.bytes
  have hr := B.returns
  have hts : ∀ w ∈ q_big, w.before _ s = true := fun w h => atoms_spec (ws := w_Run_compute) B.pre w (List.mem_cons_of_mem _ h)
  have hown : s.vm.findClass "SlippedStreams$Run" = some m.cls := findClass_of_methodNamed B.named
  have hlocks := B.notSynchronized
  subst hsz
  have hD := hD0.self (sz := s.heap.size)
  generalize hAe : va_A (wX cI cZ ad z0) s.heap.size = A at hD ⊢
  have hA : ∀ q : Nat, s.heap.size ≤ q → A q := fun q h => by rw [← hAe]; exact Or.inr h
  have hS : va_S A s.heap s.heap [] := va_S.rf
  have hK := hKK.1
  have hl := lv_entry ([.ref (ad 29), .int x1]) (n := 2) (Nat.le_of_ble_eq_true rfl)
  rw [lg_entry_eq]
  generalize (lg_sl ([.ref (ad 29), .int x1]) ++ List.replicate (2 - (lg_sl ([.ref (ad 29), .int x1])).length) Slot.unset).toArray = ls at hl ⊢
  have hl : lv_has ls 2 [(0, .ref (ad 29)), (1, .int x1)] := hl
  have jp_42 : ∀ (z0 : ST) (y1 y2 y3 : Int32) (H : Heap) (locs : List Loc) (ls : Array Slot), x_Run_compute_29_42 z0 y1 y2 y3 = some R → va_P (dC, dI) q_cl (wX cI cZ ad z0) H → va_D A (wX cI cZ ad z0) → va_S A s.heap H locs → lv_has ls 2 [(0, .ref (ad 29)), (1, .int y1)] → qWv p l e w_Run_compute 1 23 s m [.ref (ad 29), .int x1] below meth c (dC, dI) q_cl (wX cI cZ ad) A R H locs (F0 m 42 ls [.int y3, .int y2, .ref (ad 30)]) := by
    intro z0 y1 y2 y3 H locs ls h hP hD hS hl
    unfold x_Run_compute_29_42 at h
    obtain ⟨hi, h⟩ := gin_e h
    obtain ⟨z1, e1, h⟩ := bnd_e h
    refine xs_20 hx hb hK hP hD hS hi d_Run_compute_42 e1 (fun H locs hP hD hS => ?_)
    exact q_vret hx hb hr hlocks h hP hD hS d_Run_compute_43
  unfold x_Run_compute_29 at h
  refine lv_aload_n hx hb d_Run_compute_0 rfl (lv_at hl 0 rfl) ?_
  refine xg_29_registers hx hb hts hin_AddressStream hown hK hP (hts _ k_274) (fun _ h9 => h9) d_Run_compute_1 ?_
  refine lv_aload_n hx hb d_Run_compute_4 rfl (lv_at hl 0 rfl) ?_
  refine xg_29_program hx hb hts hin_AddressStream hown hK hP (hts _ k_265) (fun _ h9 => h9) d_Run_compute_5 ?_
  refine xg_1_as hx hb hts hin_Program hown hK hP (hts _ k_92) (fun _ h9 => h9) d_Run_compute_8 ?_
  refine lv_iload_n hx hb d_Run_compute_11 rfl (lv_at hl 1 rfl) ?_
  obtain ⟨hi, h⟩ := gin_e h
  refine xl_1 hx hb hK hP hi d_Run_compute_12 ?_
  refine lv_aload_n hx hb d_Run_compute_13 rfl (lv_at hl 0 rfl) ?_
  refine xg_29_program hx hb hts hin_AddressStream hown hK hP (hts _ k_265) (fun _ h9 => h9) d_Run_compute_14 ?_
  refine xg_1_kinds hx hb hts hin_Program hown hK hP (hts _ k_87) (fun _ h9 => h9) d_Run_compute_17 ?_
  refine lv_iload_n hx hb d_Run_compute_20 rfl (lv_at hl 1 rfl) ?_
  obtain ⟨hi, h⟩ := gin_e h
  refine xl_0 hx hb hK hP hi d_Run_compute_21 ?_
  refine lv_if_ne (tgt := 37) hx hb d_Run_compute_22 (by decide) (fun hc => ?_) (fun hc => ?_)
  · replace h := if_f hc h
    refine lv_aload_n hx hb d_Run_compute_37 rfl (lv_at hl 0 rfl) ?_
    refine lv_iload_n hx hb d_Run_compute_38 rfl (lv_at hl 1 rfl) ?_
    obtain ⟨r2, z2, hc2, h⟩ := obn_e h
    refine q_goi (va_runU (As := [.int x1]) (rest := [.int (z0.2 1 x1.toNatClampNeg), .ref (ad 30)]) ⟨hx, hb, hml, hown, hts⟩ (c_x_Run_combined_29 l dC dI cI cZ ad z0 x1 _ hc2 _) (va_cwU 1 hts (q_goodL _ (q_l5 k_630 k_1088 k_2 k_632 k_58) k_633) rfl rfl rfl rfl (by decide +kernel) ⟨Nat.le_of_ble_eq_true rfl, Nat.le_of_ble_eq_true rfl⟩) (q_preV qok hKK hP hD (va_recv (ci := 5) (q0 := 29) hK hP rfl rfl)) rfl rfl hl.1 rfl (lv_room (Nat.le_of_ble_eq_true rfl)) d_Run_compute_39 ⟨Nat.le_refl _, Nat.le_refl _⟩) hD hS hA (fun H locs hP hD hS => ?_)
    exact jp_42 z2 x1 (z0.2 1 x1.toNatClampNeg) r2 _ _ _ h hP hD hS (lv_sub hl [0, 1] rfl)
  · replace h := if_t hc h
    refine lv_aload_n hx hb d_Run_compute_25 rfl (lv_at hl 0 rfl) ?_
    refine xg_29_program hx hb hts hin_AddressStream hown hK hP (hts _ k_265) (fun _ h9 => h9) d_Run_compute_26 ?_
    refine xg_1_cs hx hb hts hin_Program hown hK hP (hts _ k_96) (fun _ h9 => h9) d_Run_compute_29 ?_
    refine lv_iload_n hx hb d_Run_compute_32 rfl (lv_at hl 1 rfl) ?_
    obtain ⟨hi, h⟩ := gin_e h
    refine xl_3 hx hb hK hP hi d_Run_compute_33 ?_
    refine lv_goto (tgt := 42) hx hb d_Run_compute_34 (by decide) ?_
    exact jp_42 z0 x1 (z0.2 1 x1.toNatClampNeg) (z0.2 3 x1.toNatClampNeg) _ _ _ h hP hD hS (lv_sub hl [0, 1] rfl)
def x_AddressStream_doOwn_29_52 (z0 : ST) (y1 : Int32) : OR := obn (x_Fifo_hasRoomFor_17 z0 1) (fun r1 z1 => if r1 = 0 then (gib 0 (some (0, z1))) else (obn (x_Stream_sendOutcome_29_17 z1 y1) (fun r2 z2 => if r2 = 0 then (gib 0 (some (0, z2))) else (gib 1 (some (1, z2))))))
def x_AddressStream_doOwn_29 (z0 : ST) (x1 : Int32) : OR := gin x1 24 (if z0.2 0 x1.toNatClampNeg = 4 then (obn (x_AddressStream_load_29 z0 x1) (fun r3 z3 => gib r3 (some (r3, z3)))) else (if z0.2 0 x1.toNatClampNeg = 5 then (obn (x_AddressStream_store_29 z0 x1) (fun r4 z4 => gib r4 (some (r4, z4)))) else (if z0.2 0 x1.toNatClampNeg = 6 then (x_AddressStream_doOwn_29_52 z0 x1) else (if z0.2 0 x1.toNatClampNeg = 7 then (x_AddressStream_doOwn_29_52 z0 x1) else (obn (x_Run_compute_29 z0 x1) (fun r5 z5 => obn (x_Stream_leaveFor_29 z5 (x1 + 1)) (fun r6 z6 => gib r6 (some (r6, z6)))))))))
set_option maxRecDepth 100000 in
set_option maxHeartbeats 4000000 in
theorem c_x_AddressStream_doOwn_29 (l : Launch) (dC : Nat → ClassId) (dI : Nat → Nat → Nat) (cI cZ : ClassId) (ad : Nat → Nat) (z0 : ST) (x1 : Int32) (R : Int32 × ST) (h : x_AddressStream_doOwn_29 z0 x1 = some R) : qMi l y_AddressStream_doOwn w_AddressStream_doOwn 4 88 (KX dC dI cI cZ) (dC, dI) q_cl (wX cI cZ ad) [.ref (ad 29), .int x1] z0 R := by
  intro sz
  refine Met.ofW (cc := b_AddressStream_doOwn) (maxL := 2) (ret := (some .boolean)) (by decide) rfl ?_
  intro p e s m args below meth c s₁ B hml hv
  obtain ⟨rfl, hsz, hP, hKK, hD0⟩ := hv
  have hx := B.exec
  have hb := B.bytes
  have hr := B.returns
  have hts : ∀ w ∈ q_big, w.before _ s = true := fun w h => atoms_spec (ws := w_AddressStream_doOwn) B.pre w (List.mem_cons_of_mem _ h)
  have hown : s.vm.findClass "SlippedStreams$AddressStream" = some m.cls := findClass_of_methodNamed B.named
  have hlocks := B.notSynchronized
  subst hsz
  have hD := hD0.self (sz := s.heap.size)
  generalize hAe : va_A (wX cI cZ ad z0) s.heap.size = A at hD ⊢
  have hA : ∀ q : Nat, s.heap.size ≤ q → A q := fun q h => by rw [← hAe]; exact Or.inr h
  have hS : va_S A s.heap s.heap [] := va_S.rf
  have hK := hKK.1
  have hl := lv_entry ([.ref (ad 29), .int x1]) (n := 2) (Nat.le_of_ble_eq_true rfl)
  rw [lg_entry_eq]
  generalize (lg_sl ([.ref (ad 29), .int x1]) ++ List.replicate (2 - (lg_sl ([.ref (ad 29), .int x1])).length) Slot.unset).toArray = ls at hl ⊢
  have hl : lv_has ls 2 [(0, .ref (ad 29)), (1, .int x1)] := hl
  have jp_52 : ∀ (z0 : ST) (y1 : Int32) (H : Heap) (locs : List Loc) (ls : Array Slot), x_AddressStream_doOwn_29_52 z0 y1 = some R → va_P (dC, dI) q_cl (wX cI cZ ad z0) H → va_D A (wX cI cZ ad z0) → va_S A s.heap H locs → lv_has ls 2 [(0, .ref (ad 29)), (1, .int y1)] → qWi p l e w_AddressStream_doOwn 4 88 s m [.ref (ad 29), .int x1] below meth c (dC, dI) q_cl (wX cI cZ ad) A R H locs (F0 m 52 ls []) := by
    intro z0 y1 H locs ls h hP hD hS hl
    unfold x_AddressStream_doOwn_29_52 at h
    refine lv_aload_n hx hb d_AddressStream_doOwn_52 rfl (lv_at hl 0 rfl) ?_
    refine xg_29_link hx hb hts hin_AddressStream hown hK hP (hts _ k_257) (fun x9 h9 => u_same (hts _ k_258) x9 h9) d_AddressStream_doOwn_53 ?_
    refine xg_13_valueOutcomes hx hb hts hin_Link hown hK hP (hts _ k_212) (fun _ h9 => h9) d_AddressStream_doOwn_56 ?_
    refine lv_iconst (v := 1) hx hb d_AddressStream_doOwn_59 (by decide) ?_
    obtain ⟨r1, z1, hc1, h⟩ := obn_e h
    refine q_goi (va_runV (As := [.int 1]) (rest := []) ⟨hx, hb, hml, hown, hts⟩ (c_x_Fifo_hasRoomFor_17 l dC dI cI cZ ad z0 1 _ hc1 _) (cwV 1 hts (q_goodL _ (q_l4 k_595 k_596 k_597 k_56) k_598) rfl rfl rfl (by decide +kernel) ⟨Nat.le_of_ble_eq_true rfl, Nat.le_of_ble_eq_true rfl⟩) (q_preV qok hKK hP hD (va_recv (ci := 3) (q0 := 17) hK hP rfl rfl)) rfl rfl hl.1 rfl (lv_room (Nat.le_of_ble_eq_true rfl)) d_AddressStream_doOwn_60 ⟨Nat.le_refl _, Nat.le_refl _⟩) hD hS hA (fun H locs hP hD hS => ?_)
    refine lv_if_eq (tgt := 85) hx hb d_AddressStream_doOwn_63 (by decide) (fun hc => ?_) (fun hc => ?_)
    · replace h := if_t hc h
      refine lv_iconst (v := 0) hx hb d_AddressStream_doOwn_85 (by decide) ?_
      exact q_zret hx hb hr hlocks h hP hD hS d_AddressStream_doOwn_86
    · replace h := if_f hc h
      refine lv_aload_n hx hb d_AddressStream_doOwn_66 rfl (lv_at hl 0 rfl) ?_
      refine lv_iload_n hx hb d_AddressStream_doOwn_67 rfl (lv_at hl 1 rfl) ?_
      refine lv_aload_n hx hb d_AddressStream_doOwn_68 rfl (lv_at hl 0 rfl) ?_
      refine xg_29_link hx hb hts hin_AddressStream hown hK hP (hts _ k_257) (fun x9 h9 => u_same (hts _ k_258) x9 h9) d_AddressStream_doOwn_69 ?_
      refine xg_13_valueOutcomes hx hb hts hin_Link hown hK hP (hts _ k_212) (fun _ h9 => h9) d_AddressStream_doOwn_72 ?_
      obtain ⟨r2, z2, hc2, h⟩ := obn_e h
      refine q_goi (va_runU (As := [.int y1, .ref (ad 17)]) (rest := []) ⟨hx, hb, hml, hown, hts⟩ (c_x_Stream_sendOutcome_29_17 l dC dI cI cZ ad z1 y1 _ hc2 _) (va_cwU 2 hts (q_goodL _ (q_l5 k_599 k_600 k_602 k_603 k_59) k_604) rfl rfl rfl rfl (by decide +kernel) ⟨Nat.le_of_ble_eq_true rfl, Nat.le_of_ble_eq_true rfl⟩) (q_preV qok hKK hP hD (va_recv (ci := 5) (q0 := 29) hK hP rfl rfl)) rfl rfl hl.1 rfl (lv_room (Nat.le_of_ble_eq_true rfl)) d_AddressStream_doOwn_75 ⟨Nat.le_refl _, Nat.le_refl _⟩) hD hS hA (fun H locs hP hD hS => ?_)
      refine lv_if_eq (tgt := 85) hx hb d_AddressStream_doOwn_78 (by decide) (fun hc => ?_) (fun hc => ?_)
      · replace h := if_t hc h
        refine lv_iconst (v := 0) hx hb d_AddressStream_doOwn_85 (by decide) ?_
        exact q_zret hx hb hr hlocks h hP hD hS d_AddressStream_doOwn_86
      · replace h := if_f hc h
        refine lv_iconst (v := 1) hx hb d_AddressStream_doOwn_81 (by decide) ?_
        refine lv_goto (tgt := 86) hx hb d_AddressStream_doOwn_82 (by decide) ?_
        exact q_zret hx hb hr hlocks h hP hD hS d_AddressStream_doOwn_86
  unfold x_AddressStream_doOwn_29 at h
  refine lv_aload_n hx hb d_AddressStream_doOwn_0 rfl (lv_at hl 0 rfl) ?_
  refine xg_29_program hx hb hts hin_AddressStream hown hK hP (hts _ k_266) (fun x9 h9 => u_same (hts _ k_267) x9 h9) d_AddressStream_doOwn_1 ?_
  refine xg_1_kinds hx hb hts hin_Program hown hK hP (hts _ k_86) (fun _ h9 => h9) d_AddressStream_doOwn_4 ?_
  refine lv_iload_n hx hb d_AddressStream_doOwn_7 rfl (lv_at hl 1 rfl) ?_
  obtain ⟨hi, h⟩ := gin_e h
  refine xl_0 hx hb hK hP hi d_AddressStream_doOwn_8 ?_
  by_cases hc0 : z0.2 0 x1.toNatClampNeg = 4
  · replace h := if_t hc0 h
    refine lv_tableIn (tgt := 40) (off := 31) hx hb d_AddressStream_doOwn_9 (by rw [hc0]; decide) (by rw [hc0]; decide) (by rw [hc0]; rfl) (by decide) ?_
    refine lv_aload_n hx hb d_AddressStream_doOwn_40 rfl (lv_at hl 0 rfl) ?_
    refine lv_iload_n hx hb d_AddressStream_doOwn_41 rfl (lv_at hl 1 rfl) ?_
    obtain ⟨r3, z3, hc3, h⟩ := obn_e h
    refine q_goi (va_runV (As := [.int x1]) (rest := []) ⟨hx, hb, hml, hown, hts⟩ (c_x_AddressStream_load_29 l dC dI cI cZ ad z0 x1 _ hc3 _) (cwV 1 hts (q_goodL _ (q_l4 k_545 k_547 k_14 k_60) k_548) rfl rfl rfl (by decide +kernel) ⟨Nat.le_of_ble_eq_true rfl, Nat.le_of_ble_eq_true rfl⟩) (q_preV qok hKK hP hD (va_recv (ci := 5) (q0 := 29) hK hP rfl rfl)) rfl rfl hl.1 rfl (lv_room (Nat.le_of_ble_eq_true rfl)) d_AddressStream_doOwn_42 ⟨Nat.le_refl _, Nat.le_refl _⟩) hD hS hA (fun H locs hP hD hS => ?_)
    exact q_zret hx hb hr hlocks h hP hD hS d_AddressStream_doOwn_45
  · replace h := if_f hc0 h
    by_cases hc1 : z0.2 0 x1.toNatClampNeg = 5
    · replace h := if_t hc1 h
      refine lv_tableIn (tgt := 46) (off := 37) hx hb d_AddressStream_doOwn_9 (by rw [hc1]; decide) (by rw [hc1]; decide) (by rw [hc1]; rfl) (by decide) ?_
      refine lv_aload_n hx hb d_AddressStream_doOwn_46 rfl (lv_at hl 0 rfl) ?_
      refine lv_iload_n hx hb d_AddressStream_doOwn_47 rfl (lv_at hl 1 rfl) ?_
      obtain ⟨r4, z4, hc4, h⟩ := obn_e h
      refine q_goi (va_runV (As := [.int x1]) (rest := []) ⟨hx, hb, hml, hown, hts⟩ (c_x_AddressStream_store_29 l dC dI cI cZ ad z0 x1 _ hc4 _) (cwV 1 hts (q_goodL _ (q_l4 k_569 k_571 k_16 k_60) k_572) rfl rfl rfl (by decide +kernel) ⟨Nat.le_of_ble_eq_true rfl, Nat.le_of_ble_eq_true rfl⟩) (q_preV qok hKK hP hD (va_recv (ci := 5) (q0 := 29) hK hP rfl rfl)) rfl rfl hl.1 rfl (lv_room (Nat.le_of_ble_eq_true rfl)) d_AddressStream_doOwn_48 ⟨Nat.le_refl _, Nat.le_refl _⟩) hD hS hA (fun H locs hP hD hS => ?_)
      exact q_zret hx hb hr hlocks h hP hD hS d_AddressStream_doOwn_51
    · replace h := if_f hc1 h
      by_cases hc2 : z0.2 0 x1.toNatClampNeg = 6
      · replace h := if_t hc2 h
        refine lv_tableIn (tgt := 52) (off := 43) hx hb d_AddressStream_doOwn_9 (by rw [hc2]; decide) (by rw [hc2]; decide) (by rw [hc2]; rfl) (by decide) ?_
        exact jp_52 z0 x1 _ _ _ h hP hD hS (lv_sub hl [0, 1] rfl)
      · replace h := if_f hc2 h
        by_cases hc3 : z0.2 0 x1.toNatClampNeg = 7
        · replace h := if_t hc3 h
          refine lv_tableIn (tgt := 52) (off := 43) hx hb d_AddressStream_doOwn_9 (by rw [hc3]; decide) (by rw [hc3]; decide) (by rw [hc3]; rfl) (by decide) ?_
          exact jp_52 z0 x1 _ _ _ h hP hD hS (lv_sub hl [0, 1] rfl)
        · replace h := if_f hc3 h
          refine lv_tableOut (tgt := 87) hx hb d_AddressStream_doOwn_9 (by have g0 := lv_neT hc0 (a := 4) (by decide); have g1 := lv_neT hc1 (a := 5) (by decide); have g2 := lv_neT hc2 (a := 6) (by decide); have g3 := lv_neT hc3 (a := 7) (by decide); omega) (by decide) ?_
          refine lv_aload_n hx hb d_AddressStream_doOwn_87 rfl (lv_at hl 0 rfl) ?_
          refine lv_iload_n hx hb d_AddressStream_doOwn_88 rfl (lv_at hl 1 rfl) ?_
          obtain ⟨r5, z5, hc5, h⟩ := obn_e h
          refine q_gov (va_runU (As := [.int x1]) (rest := []) ⟨hx, hb, hml, hown, hts⟩ (c_x_Run_compute_29 l dC dI cI cZ ad z0 x1 _ hc5 _) (va_cwU 1 hts (q_goodL _ (q_l5 k_624 k_625 k_627 k_628 k_58) k_629) rfl rfl rfl rfl (by decide +kernel) ⟨Nat.le_of_ble_eq_true rfl, Nat.le_of_ble_eq_true rfl⟩) (q_preV qok hKK hP hD (va_recv (ci := 5) (q0 := 29) hK hP rfl rfl)) rfl rfl hl.1 rfl (lv_room (Nat.le_of_ble_eq_true rfl)) d_AddressStream_doOwn_89 ⟨Nat.le_refl _, Nat.le_refl _⟩) hD hS hA (fun H locs hP hD hS => ?_)
          refine lv_aload_n hx hb d_AddressStream_doOwn_92 rfl (lv_at hl 0 rfl) ?_
          refine lv_iload_n hx hb d_AddressStream_doOwn_93 rfl (lv_at hl 1 rfl) ?_
          refine lv_iconst (v := 1) hx hb d_AddressStream_doOwn_94 (by decide) ?_
          refine lv_iadd hx hb d_AddressStream_doOwn_95 ?_
          obtain ⟨r6, z6, hc6, h⟩ := obn_e h
          refine q_goi (va_runU (As := [.int (x1 + 1)]) (rest := []) ⟨hx, hb, hml, hown, hts⟩ (c_x_Stream_leaveFor_29 l dC dI cI cZ ad z5 (x1 + 1) _ hc6 _) (va_cwU 1 hts (q_goodL _ (q_l5 k_563 k_564 k_566 k_567 k_59) k_568) rfl rfl rfl rfl (by decide +kernel) ⟨Nat.le_of_ble_eq_true rfl, Nat.le_of_ble_eq_true rfl⟩) (q_preV qok hKK hP hD (va_recv (ci := 5) (q0 := 29) hK hP rfl rfl)) rfl rfl hl.1 rfl (lv_room (Nat.le_of_ble_eq_true rfl)) d_AddressStream_doOwn_96 ⟨Nat.le_refl _, Nat.le_refl _⟩) hD hS hA (fun H locs hP hD hS => ?_)
          exact q_zret hx hb hr hlocks h hP hD hS d_AddressStream_doOwn_99
def x_AddressStream_step_29 (z0 : ST) : OR := obn (x_Run_hasEnded_29 z0) (fun r1 z1 => if r1 = 0 then (gin (z1.1 15) 24 (if (z1.2 4 (z1.1 15).toNatClampNeg) = 0 then (obn (x_AddressStream_doOwn_29 z1 (z1.1 15)) (fun r3 z3 => gib r3 (some (r3, z3)))) else (obn (x_AddressStream_serve_29 z1 (z1.1 15)) (fun r2 z2 => gib r2 (some (r2, z2)))))) else (gib 0 (some (0, z1))))
set_option maxRecDepth 100000 in
set_option maxHeartbeats 4000000 in
theorem c_x_AddressStream_step_29 (l : Launch) (dC : Nat → ClassId) (dI : Nat → Nat → Nat) (cI cZ : ClassId) (ad : Nat → Nat) (z0 : ST) (R : Int32 × ST) (h : x_AddressStream_step_29 z0 = some R) : qMi l y_AddressStream_step w_AddressStream_step 5 109 (KX dC dI cI cZ) (dC, dI) q_cl (wX cI cZ ad) [.ref (ad 29)] z0 R := by
  intro sz
  refine Met.ofW (cc := b_AddressStream_step) (maxL := 1) (ret := (some .boolean)) (by decide) rfl ?_
  intro p e s m args below meth c s₁ B hml hv
  obtain ⟨rfl, hsz, hP, hKK, hD0⟩ := hv
  have hx := B.exec
  have hb := B.bytes
  have hr := B.returns
  have hts : ∀ w ∈ q_big, w.before _ s = true := fun w h => atoms_spec (ws := w_AddressStream_step) B.pre w (List.mem_cons_of_mem _ h)
  have hown : s.vm.findClass "SlippedStreams$AddressStream" = some m.cls := findClass_of_methodNamed B.named
  have hlocks := B.notSynchronized
  subst hsz
  have hD := hD0.self (sz := s.heap.size)
  generalize hAe : va_A (wX cI cZ ad z0) s.heap.size = A at hD ⊢
  have hA : ∀ q : Nat, s.heap.size ≤ q → A q := fun q h => by rw [← hAe]; exact Or.inr h
  have hS : va_S A s.heap s.heap [] := va_S.rf
  have hK := hKK.1
  have hl := lv_entry ([.ref (ad 29)]) (n := 1) (Nat.le_of_ble_eq_true rfl)
  rw [lg_entry_eq]
  generalize (lg_sl ([.ref (ad 29)]) ++ List.replicate (1 - (lg_sl ([.ref (ad 29)])).length) Slot.unset).toArray = ls at hl ⊢
  have hl : lv_has ls 1 [(0, .ref (ad 29))] := hl
  unfold x_AddressStream_step_29 at h
  refine lv_aload_n hx hb d_AddressStream_step_0 rfl (lv_at hl 0 rfl) ?_
  obtain ⟨r1, z1, hc1, h⟩ := obn_e h
  refine q_goi (va_runU (As := []) (rest := []) ⟨hx, hb, hml, hown, hts⟩ (c_x_Run_hasEnded_29 l dC dI cI cZ ad z0 _ hc1 _) (va_cwU 0 hts (q_goodL _ (q_l5 k_535 k_536 k_538 k_539 k_58) k_540) rfl rfl rfl rfl (by decide +kernel) ⟨Nat.le_of_ble_eq_true rfl, Nat.le_of_ble_eq_true rfl⟩) (q_preV qok hKK hP hD (va_recv (ci := 5) (q0 := 29) hK hP rfl rfl)) rfl rfl hl.1 rfl (lv_room (Nat.le_of_ble_eq_true rfl)) d_AddressStream_step_1 ⟨Nat.le_refl _, Nat.le_refl _⟩) hD hS hA (fun H locs hP hD hS => ?_)
  refine lv_if_eq (tgt := 9) hx hb d_AddressStream_step_4 (by decide) (fun hc => ?_) (fun hc => ?_)
  · replace h := if_t hc h
    refine lv_aload_n hx hb d_AddressStream_step_9 rfl (lv_at hl 0 rfl) ?_
    refine xg_29_program hx hb hts hin_AddressStream hown hK hP (hts _ k_266) (fun x9 h9 => u_same (hts _ k_267) x9 h9) d_AddressStream_step_10 ?_
    refine xg_1_streams hx hb hts hin_Program hown hK hP (hts _ k_98) (fun _ h9 => h9) d_AddressStream_step_13 ?_
    refine lv_aload_n hx hb d_AddressStream_step_16 rfl (lv_at hl 0 rfl) ?_
    refine xg_29_at hx hb hts hin_AddressStream hown hK hP (hts _ k_290) (fun x9 h9 => u_same (hts _ k_291) x9 h9) d_AddressStream_step_17 ?_
    obtain ⟨hi, h⟩ := gin_e h
    refine xl_4 hx hb hK hP hi d_AddressStream_step_20 ?_
    refine lv_if_ne (tgt := 35) hx hb d_AddressStream_step_21 (by decide) (fun hc => ?_) (fun hc => ?_)
    · replace h := if_f hc h
      refine lv_aload_n hx hb d_AddressStream_step_35 rfl (lv_at hl 0 rfl) ?_
      refine lv_aload_n hx hb d_AddressStream_step_36 rfl (lv_at hl 0 rfl) ?_
      refine xg_29_at hx hb hts hin_AddressStream hown hK hP (hts _ k_290) (fun x9 h9 => u_same (hts _ k_291) x9 h9) d_AddressStream_step_37 ?_
      obtain ⟨r2, z2, hc2, h⟩ := obn_e h
      refine q_goi (va_runV (As := [.int (z1.1 15)]) (rest := []) ⟨hx, hb, hml, hown, hts⟩ (c_x_AddressStream_serve_29 l dC dI cI cZ ad z1 (z1.1 15) _ hc2 _) (cwV 1 hts (q_goodL _ (q_l4 k_634 k_636 k_18 k_60) k_637) rfl rfl rfl (by decide +kernel) ⟨Nat.le_of_ble_eq_true rfl, Nat.le_of_ble_eq_true rfl⟩) (q_preV qok hKK hP hD (va_recv (ci := 5) (q0 := 29) hK hP rfl rfl)) rfl rfl hl.1 rfl (lv_room (Nat.le_of_ble_eq_true rfl)) d_AddressStream_step_40 ⟨Nat.le_refl _, Nat.le_refl _⟩) hD hS hA (fun H locs hP hD hS => ?_)
      exact q_zret hx hb hr hlocks h hP hD hS d_AddressStream_step_43
    · replace h := if_t hc h
      refine lv_aload_n hx hb d_AddressStream_step_24 rfl (lv_at hl 0 rfl) ?_
      refine lv_aload_n hx hb d_AddressStream_step_25 rfl (lv_at hl 0 rfl) ?_
      refine xg_29_at hx hb hts hin_AddressStream hown hK hP (hts _ k_290) (fun x9 h9 => u_same (hts _ k_291) x9 h9) d_AddressStream_step_26 ?_
      obtain ⟨r3, z3, hc3, h⟩ := obn_e h
      refine q_goi (va_runV (As := [.int (z1.1 15)]) (rest := []) ⟨hx, hb, hml, hown, hts⟩ (c_x_AddressStream_doOwn_29 l dC dI cI cZ ad z1 (z1.1 15) _ hc3 _) (cwV 1 hts (q_goodL _ (q_l4 k_541 k_543 k_13 k_60) k_544) rfl rfl rfl (by decide +kernel) ⟨Nat.le_of_ble_eq_true rfl, Nat.le_of_ble_eq_true rfl⟩) (q_preV qok hKK hP hD (va_recv (ci := 5) (q0 := 29) hK hP rfl rfl)) rfl rfl hl.1 rfl (lv_room (Nat.le_of_ble_eq_true rfl)) d_AddressStream_step_29 ⟨Nat.le_refl _, Nat.le_refl _⟩) hD hS hA (fun H locs hP hD hS => ?_)
      refine lv_goto (tgt := 43) hx hb d_AddressStream_step_32 (by decide) ?_
      exact q_zret hx hb hr hlocks h hP hD hS d_AddressStream_step_43
  · replace h := if_f hc h
    refine lv_iconst (v := 0) hx hb d_AddressStream_step_7 (by decide) ?_
    exact q_zret hx hb hr hlocks h hP hD hS d_AddressStream_step_8
def x_Run_advance_29_g0 (k : Nat → ST → Int32 → Int32 → OR) (z0 : ST) (y1 y2 : Int32) : OR := k 1 z0 y1 0
def x_Run_advance_29_g2 (k : Nat → ST → Int32 → Int32 → OR) (z0 : ST) (y1 y2 : Int32) : OR := if y1 ≤ y2 then (some (y2, z0)) else (obn (x_AddressStream_step_29 z0) (fun r1 z1 => if r1 = 0 then (some (y2, z1)) else (k 1 z1 y1 (y2 + 1))))
def x_Run_advance_29_g (k : Nat → ST → Int32 → Int32 → OR) (n : Nat) : ST → Int32 → Int32 → OR := match n with
  | 0 => x_Run_advance_29_g0 k
  | 1 => x_Run_advance_29_g2 k
  | _ => fun _ _ _ => none
def x_Run_advance_29_f : Nat → Nat → ST → Int32 → Int32 → OR
  | 0 => fun _ _ _ _ => none
  | n + 1 => x_Run_advance_29_g (x_Run_advance_29_f n)
def x_Run_advance_29 (z0 : ST) (x1 : Int32) : OR := x_Run_advance_29_f 4000 0 z0 x1 0
set_option maxRecDepth 100000 in
set_option maxHeartbeats 4000000 in
theorem c_x_Run_advance_29 (l : Launch) (dC : Nat → ClassId) (dI : Nat → Nat → Nat) (cI cZ : ClassId) (ad : Nat → Nat) (z0 : ST) (x1 : Int32) (R : Int32 × ST) (h : x_Run_advance_29 z0 x1 = some R) : qMi l y_Run_advance w_Run_advance 6 129 (KX dC dI cI cZ) (dC, dI) q_cl (wX cI cZ ad) [.ref (ad 29), .int x1] z0 R := by
  intro sz
  refine Met.ofW (cc := b_Run_advance) (maxL := 3) (ret := (some .int)) (by decide) rfl ?_
  intro p e s m args below meth c s₁ B hml hv
  obtain ⟨rfl, hsz, hP, hKK, hD0⟩ := hv
  have hx := B.exec
  have hb := B.bytes
  have hr := B.returns
  have hts : ∀ w ∈ q_big, w.before _ s = true := fun w h => atoms_spec (ws := w_Run_advance) B.pre w (List.mem_cons_of_mem _ h)
  have hown : s.vm.findClass "SlippedStreams$Run" = some m.cls := findClass_of_methodNamed B.named
  have hlocks := B.notSynchronized
  subst hsz
  have hD := hD0.self (sz := s.heap.size)
  generalize hAe : va_A (wX cI cZ ad z0) s.heap.size = A at hD ⊢
  have hA : ∀ q : Nat, s.heap.size ≤ q → A q := fun q h => by rw [← hAe]; exact Or.inr h
  have hS : va_S A s.heap s.heap [] := va_S.rf
  have hK := hKK.1
  have hl := lv_entry ([.ref (ad 29), .int x1]) (n := 3) (Nat.le_of_ble_eq_true rfl)
  rw [lg_entry_eq]
  generalize (lg_sl ([.ref (ad 29), .int x1]) ++ List.replicate (3 - (lg_sl ([.ref (ad 29), .int x1])).length) Slot.unset).toArray = ls at hl ⊢
  have hl : lv_has ls 3 [(0, .ref (ad 29)), (1, .int x1)] := hl
  have key : ∀ n : Nat, (∀ (z0 : ST) (y1 y2 : Int32) (H : Heap) (locs : List Loc) (ls : Array Slot), x_Run_advance_29_f n 0 z0 y1 y2 = some R → va_P (dC, dI) q_cl (wX cI cZ ad z0) H → va_D A (wX cI cZ ad z0) → va_S A s.heap H locs → lv_has ls 3 [(0, .ref (ad 29)), (1, .int y1)] → qWi p l e w_Run_advance 6 129 s m [.ref (ad 29), .int x1] below meth c (dC, dI) q_cl (wX cI cZ ad) A R H locs (F0 m 0 ls [])) ∧ (∀ (z0 : ST) (y1 y2 : Int32) (H : Heap) (locs : List Loc) (ls : Array Slot), x_Run_advance_29_f n 1 z0 y1 y2 = some R → va_P (dC, dI) q_cl (wX cI cZ ad z0) H → va_D A (wX cI cZ ad z0) → va_S A s.heap H locs → lv_has ls 3 [(0, .ref (ad 29)), (1, .int y1), (2, .int y2)] → qWi p l e w_Run_advance 6 129 s m [.ref (ad 29), .int x1] below meth c (dC, dI) q_cl (wX cI cZ ad) A R H locs (F0 m 2 ls [])) := by
    intro n
    induction n with
    | zero => exact ⟨fun z0 y1 y2 H locs ls h hP hD hS hl => (by cases h), fun z0 y1 y2 H locs ls h hP hD hS hl => (by cases h)⟩
    | succ n ih =>
      obtain ⟨jp_0, jp_2⟩ := ih
      refine ⟨?_, ?_⟩
      · intro z0 y1 y2 H locs ls h hP hD hS hl
        replace h : x_Run_advance_29_g0 (x_Run_advance_29_f n) z0 y1 y2 = some R := h
        unfold x_Run_advance_29_g0 at h
        refine lv_iconst (v := 0) hx hb d_Run_advance_0 (by decide) ?_
        refine lv_istore_n (lv' := [(2, .int 0), (0, .ref (ad 29)), (1, .int y1)]) hx hb d_Run_advance_1 rfl hl (by decide) rfl (fun ls hl => ?_)
        exact jp_2 z0 y1 0 _ _ _ h hP hD hS (lv_sub hl [1, 2, 0] rfl)
      · intro z0 y1 y2 H locs ls h hP hD hS hl
        replace h : x_Run_advance_29_g2 (x_Run_advance_29_f n) z0 y1 y2 = some R := h
        unfold x_Run_advance_29_g2 at h
        refine lv_iload_n hx hb d_Run_advance_2 rfl (lv_at hl 2 rfl) ?_
        refine lv_iload_n hx hb d_Run_advance_3 rfl (lv_at hl 1 rfl) ?_
        refine lv_icmp_ge (tgt := 20) hx hb d_Run_advance_4 (by decide) (fun hc => ?_) (fun hc => ?_)
        · replace h := if_t hc h
          refine lv_iload_n hx hb d_Run_advance_20 rfl (lv_at hl 2 rfl) ?_
          exact q_iret hx hb hr hlocks h hP hD hS d_Run_advance_21
        · replace h := if_f hc h
          refine lv_aload_n hx hb d_Run_advance_7 rfl (lv_at hl 0 rfl) ?_
          obtain ⟨r1, z1, hc1, h⟩ := obn_e h
          refine q_goi (va_runU (As := []) (rest := []) ⟨hx, hb, hml, hown, hts⟩ (c_x_AddressStream_step_29 l dC dI cI cZ ad z0 _ hc1 _) (va_cwA 0 hts (q_goodL _ (q_l5 k_529 k_531 k_532 k_533 k_60) k_534) rfl rfl rfl hKK.2.2 (by decide +kernel) ⟨Nat.le_of_ble_eq_true rfl, Nat.le_of_ble_eq_true rfl⟩) (q_preV qok hKK hP hD (va_recv (ci := 5) (q0 := 29) hK hP rfl rfl)) rfl rfl hl.1 rfl (lv_room (Nat.le_of_ble_eq_true rfl)) d_Run_advance_8 ⟨Nat.le_refl _, Nat.le_refl _⟩) hD hS hA (fun H locs hP hD hS => ?_)
          refine lv_if_eq (tgt := 20) hx hb d_Run_advance_11 (by decide) (fun hc => ?_) (fun hc => ?_)
          · replace h := if_t hc h
            refine lv_iload_n hx hb d_Run_advance_20 rfl (lv_at hl 2 rfl) ?_
            exact q_iret hx hb hr hlocks h hP hD hS d_Run_advance_21
          · replace h := if_f hc h
            refine lv_iinc (k := 2) (v := y2 + 1) (lv' := [(2, .int (y2 + 1)), (0, .ref (ad 29)), (1, .int y1)]) hx hb d_Run_advance_14 hl rfl rfl (by decide) rfl (fun ls hl => ?_)
            refine lv_goto (tgt := 2) hx hb d_Run_advance_17 (by decide) ?_
            exact jp_2 z1 y1 (y2 + 1) _ _ _ h hP hD hS (lv_sub hl [1, 2, 0] rfl)
  exact (key 4000).1 z0 x1 0 _ _ _ h hP hD hS (lv_sub hl [0, 1] rfl)
def x_noteLoss (z0 : ST) : OR := obn (x_AddressStream_isAtOutcome_29 z0) (fun r1 z1 => if r1 = 0 then (some (0, z1)) else (bnd (stI z1 0 ((z1.1 0) + 1)) (fun z2 => some (0, z2))))
set_option maxRecDepth 100000 in
set_option maxHeartbeats 4000000 in
theorem c_x_noteLoss (l : Launch) (dC : Nat → ClassId) (dI : Nat → Nat → Nat) (cI cZ : ClassId) (ad : Nat → Nat) (z0 : ST) (R : Int32 × ST) (h : x_noteLoss z0 = some R) : qMv l y_SlippedStreams_noteLoss w_SlippedStreams_noteLoss 2 41 (KX dC dI cI cZ) (dC, dI) q_cl (wX cI cZ ad) [.ref (ad 0)] z0 R := by
  intro sz
  refine Met.ofW (cc := b_SlippedStreams_noteLoss) (maxL := 1) (ret := none) (by decide) rfl ?_
  intro p e s m args below meth c s₁ B hml hv
  obtain ⟨rfl, hsz, hP, hKK, hD0⟩ := hv
  have hx := B.exec
  have hb := B.bytes
  have hr := B.returns
  have hts : ∀ w ∈ q_big, w.before _ s = true := fun w h => atoms_spec (ws := w_SlippedStreams_noteLoss) B.pre w (List.mem_cons_of_mem _ h)
  have hown : s.vm.findClass "SlippedStreams" = some m.cls := findClass_of_methodNamed B.named
  have hlocks := B.notSynchronized
  subst hsz
  have hD := hD0.self (sz := s.heap.size)
  generalize hAe : va_A (wX cI cZ ad z0) s.heap.size = A at hD ⊢
  have hA : ∀ q : Nat, s.heap.size ≤ q → A q := fun q h => by rw [← hAe]; exact Or.inr h
  have hS : va_S A s.heap s.heap [] := va_S.rf
  have hK := hKK.1
  have hl := lv_entry ([.ref (ad 0)]) (n := 1) (Nat.le_of_ble_eq_true rfl)
  rw [lg_entry_eq]
  generalize (lg_sl ([.ref (ad 0)]) ++ List.replicate (1 - (lg_sl ([.ref (ad 0)])).length) Slot.unset).toArray = ls at hl ⊢
  have hl : lv_has ls 1 [(0, .ref (ad 0))] := hl
  unfold x_noteLoss at h
  refine lv_aload_n hx hb d_SlippedStreams_noteLoss_0 rfl (lv_at hl 0 rfl) ?_
  refine xg_0_addressStream hx hb hts hin_SlippedStreams hown hK hP (hts _ k_364) (fun _ h9 => h9) d_SlippedStreams_noteLoss_1 ?_
  obtain ⟨r1, z1, hc1, h⟩ := obn_e h
  refine q_goi (va_runV (As := []) (rest := []) ⟨hx, hb, hml, hown, hts⟩ (c_x_AddressStream_isAtOutcome_29 l dC dI cI cZ ad z0 _ hc1 _) (cwV 0 hts (q_goodL _ (q_l4 k_733 k_644 k_645 k_60) k_646) rfl rfl rfl (by decide +kernel) ⟨Nat.le_of_ble_eq_true rfl, Nat.le_of_ble_eq_true rfl⟩) (q_preV qok hKK hP hD (va_recv (ci := 5) (q0 := 29) hK hP rfl rfl)) rfl rfl hl.1 rfl (lv_room (Nat.le_of_ble_eq_true rfl)) d_SlippedStreams_noteLoss_4 ⟨Nat.le_refl _, Nat.le_refl _⟩) hD hS hA (fun H locs hP hD hS => ?_)
  refine lv_if_eq (tgt := 20) hx hb d_SlippedStreams_noteLoss_7 (by decide) (fun hc => ?_) (fun hc => ?_)
  · replace h := if_t hc h
    exact q_vret hx hb hr hlocks h hP hD hS d_SlippedStreams_noteLoss_20
  · replace h := if_f hc h
    refine lv_aload_n hx hb d_SlippedStreams_noteLoss_10 rfl (lv_at hl 0 rfl) ?_
    refine lv_dup hx hb d_SlippedStreams_noteLoss_11 rfl ?_
    refine xg_0_lost hx hb hts hin_SlippedStreams hown hK hP (hts _ k_367) (fun _ h9 => h9) d_SlippedStreams_noteLoss_12 ?_
    refine lv_iconst (v := 1) hx hb d_SlippedStreams_noteLoss_15 (by decide) ?_
    refine lv_iadd hx hb d_SlippedStreams_noteLoss_16 ?_
    obtain ⟨z2, e2, h⟩ := bnd_e h
    refine xp_0_lost hx hb hts hin_SlippedStreams hown hK hP hD hS (hts _ k_367) (fun _ h9 => h9) d_SlippedStreams_noteLoss_17 e2 (fun H locs hP hD hS => ?_)
    exact q_vret hx hb hr hlocks h hP hD hS d_SlippedStreams_noteLoss_20
def x_address (z0 : ST) (x1 : Int32) : OR := obn (x_isMoveCount z0 x1) (fun r1 z1 => if r1 = 0 then (some ((-1), z1)) else (obn (x_Run_advance_29 z1 x1) (fun r2 z2 => if x1 ≤ r2 then (some (r2, z2)) else (obn (x_noteLoss z2) (fun r3 z3 => some (r2, z3))))))
set_option maxRecDepth 100000 in
set_option maxHeartbeats 4000000 in
theorem c_x_address (l : Launch) (dC : Nat → ClassId) (dI : Nat → Nat → Nat) (cI cZ : ClassId) (ad : Nat → Nat) (z0 : ST) (x1 : Int32) (R : Int32 × ST) (h : x_address z0 x1 = some R) : qMi l y_SlippedStreams_address w_SlippedStreams_address 7 151 (KX dC dI cI cZ) (dC, dI) q_cl (wX cI cZ ad) [.ref (ad 0), .int x1] z0 R := by
  intro sz
  refine Met.ofW (cc := b_SlippedStreams_address) (maxL := 3) (ret := (some .int)) (by decide) rfl ?_
  intro p e s m args below meth c s₁ B hml hv
  obtain ⟨rfl, hsz, hP, hKK, hD0⟩ := hv
  have hx := B.exec
  have hb := B.bytes
  have hr := B.returns
  have hts : ∀ w ∈ q_big, w.before _ s = true := fun w h => atoms_spec (ws := w_SlippedStreams_address) B.pre w (List.mem_cons_of_mem _ h)
  have hown : s.vm.findClass "SlippedStreams" = some m.cls := findClass_of_methodNamed B.named
  have hlocks := B.notSynchronized
  subst hsz
  have hD := hD0.self (sz := s.heap.size)
  generalize hAe : va_A (wX cI cZ ad z0) s.heap.size = A at hD ⊢
  have hA : ∀ q : Nat, s.heap.size ≤ q → A q := fun q h => by rw [← hAe]; exact Or.inr h
  have hS : va_S A s.heap s.heap [] := va_S.rf
  have hK := hKK.1
  have hl := lv_entry ([.ref (ad 0), .int x1]) (n := 3) (Nat.le_of_ble_eq_true rfl)
  rw [lg_entry_eq]
  generalize (lg_sl ([.ref (ad 0), .int x1]) ++ List.replicate (3 - (lg_sl ([.ref (ad 0), .int x1])).length) Slot.unset).toArray = ls at hl ⊢
  have hl : lv_has ls 3 [(0, .ref (ad 0)), (1, .int x1)] := hl
  unfold x_address at h
  refine lv_iload_n hx hb d_SlippedStreams_address_0 rfl (lv_at hl 1 rfl) ?_
  obtain ⟨r1, z1, hc1, h⟩ := obn_e h
  refine q_goi (va_runS (As := [.int x1]) (rest := []) ⟨hx, hb, hml, hown, hts⟩ (c_x_isMoveCount l dC dI cI cZ ad z0 x1 _ hc1 _) (va_cwS 1 hts (q_goodL _ (q_l3 k_520 k_521 k_53) k_522) rfl rfl rfl (by decide +kernel) ⟨Nat.le_of_ble_eq_true rfl, Nat.le_of_ble_eq_true rfl⟩) (q_preS qok hKK hP hD) rfl rfl hl.1 rfl (lv_room (Nat.le_of_ble_eq_true rfl)) d_SlippedStreams_address_1 ⟨Nat.le_refl _, Nat.le_refl _⟩) hD hS hA (fun H locs hP hD hS => ?_)
  refine lv_if_ne (tgt := 9) hx hb d_SlippedStreams_address_4 (by decide) (fun hc => ?_) (fun hc => ?_)
  · replace h := if_f hc h
    refine lv_aload_n hx hb d_SlippedStreams_address_9 rfl (lv_at hl 0 rfl) ?_
    refine xg_0_addressStream hx hb hts hin_SlippedStreams hown hK hP (hts _ k_364) (fun _ h9 => h9) d_SlippedStreams_address_10 ?_
    refine lv_iload_n hx hb d_SlippedStreams_address_13 rfl (lv_at hl 1 rfl) ?_
    obtain ⟨r2, z2, hc2, h⟩ := obn_e h
    refine q_goi (va_runU (As := [.int x1]) (rest := []) ⟨hx, hb, hml, hown, hts⟩ (c_x_Run_advance_29 l dC dI cI cZ ad z1 x1 _ hc2 _) (va_cwU 1 hts (q_goodL _ (q_l5 k_523 k_524 k_526 k_527 k_58) k_528) rfl rfl rfl rfl (by decide +kernel) ⟨Nat.le_of_ble_eq_true rfl, Nat.le_of_ble_eq_true rfl⟩) (q_preV qok hKK hP hD (va_recv (ci := 5) (q0 := 29) hK hP rfl rfl)) rfl rfl hl.1 rfl (lv_room (Nat.le_of_ble_eq_true rfl)) d_SlippedStreams_address_14 ⟨Nat.le_refl _, Nat.le_refl _⟩) hD hS hA (fun H locs hP hD hS => ?_)
    refine lv_istore_n (lv' := [(2, .int r2), (0, .ref (ad 0)), (1, .int x1)]) hx hb d_SlippedStreams_address_17 rfl hl (by decide) rfl (fun ls hl => ?_)
    refine lv_iload_n hx hb d_SlippedStreams_address_18 rfl (lv_at hl 0 rfl) ?_
    refine lv_iload_n hx hb d_SlippedStreams_address_19 rfl (lv_at hl 2 rfl) ?_
    refine lv_icmp_ge (tgt := 27) hx hb d_SlippedStreams_address_20 (by decide) (fun hc => ?_) (fun hc => ?_)
    · replace h := if_t hc h
      refine lv_iload_n hx hb d_SlippedStreams_address_27 rfl (lv_at hl 0 rfl) ?_
      exact q_iret hx hb hr hlocks h hP hD hS d_SlippedStreams_address_28
    · replace h := if_f hc h
      refine lv_aload_n hx hb d_SlippedStreams_address_23 rfl (lv_at hl 1 rfl) ?_
      obtain ⟨r3, z3, hc3, h⟩ := obn_e h
      refine q_gov (va_runV (As := []) (rest := []) ⟨hx, hb, hml, hown, hts⟩ (c_x_noteLoss l dC dI cI cZ ad z2 _ hc3 _) (cwV 0 hts (q_goodL _ (q_l4 k_729 k_731 k_26 k_53) k_732) rfl rfl rfl (by decide +kernel) ⟨Nat.le_of_ble_eq_true rfl, Nat.le_of_ble_eq_true rfl⟩) (q_preV qok hKK hP hD (va_recv (ci := 0) (q0 := 0) hK hP rfl rfl)) rfl rfl hl.1 rfl (lv_room (Nat.le_of_ble_eq_true rfl)) d_SlippedStreams_address_24 ⟨Nat.le_refl _, Nat.le_refl _⟩) hD hS hA (fun H locs hP hD hS => ?_)
      refine lv_iload_n hx hb d_SlippedStreams_address_27 rfl (lv_at hl 0 rfl) ?_
      exact q_iret hx hb hr hlocks h hP hD hS d_SlippedStreams_address_28
  · replace h := if_t hc h
    refine lv_iconst (v := (-1)) hx hb d_SlippedStreams_address_7 (by decide) ?_
    exact q_iret hx hb hr hlocks h hP hD hS d_SlippedStreams_address_8
def x_Run_hasEnded_31 (z0 : ST) : OR := if (z0.1 18) < (z0.1 1) then (gib 0 (some (0, z0))) else (gib 1 (some (1, z0)))
set_option maxRecDepth 100000 in
set_option maxHeartbeats 4000000 in
theorem c_x_Run_hasEnded_31 (l : Launch) (dC : Nat → ClassId) (dI : Nat → Nat → Nat) (cI cZ : ClassId) (ad : Nat → Nat) (z0 : ST) (R : Int32 × ST) (h : x_Run_hasEnded_31 z0 = some R) : qMi l y_Run_hasEnded w_Run_hasEnded 0 0 (KX dC dI cI cZ) (dC, dI) q_cl (wX cI cZ ad) [.ref (ad 31)] z0 R := by
  intro sz
  refine Met.ofW (cc := b_Run_hasEnded) (maxL := 1) (ret := (some .boolean)) (by decide) rfl ?_
  intro p e s m args below meth c s₁ B hml hv
  obtain ⟨rfl, hsz, hP, hKK, hD0⟩ := hv
  have hx := B.exec
  have hb := B.bytes
  have hr := B.returns
  have hts : ∀ w ∈ q_big, w.before _ s = true := fun w h => atoms_spec (ws := w_Run_hasEnded) B.pre w (List.mem_cons_of_mem _ h)
  have hown : s.vm.findClass "SlippedStreams$Run" = some m.cls := findClass_of_methodNamed B.named
  have hlocks := B.notSynchronized
  subst hsz
  have hD := hD0.self (sz := s.heap.size)
  generalize hAe : va_A (wX cI cZ ad z0) s.heap.size = A at hD ⊢
  have hA : ∀ q : Nat, s.heap.size ≤ q → A q := fun q h => by rw [← hAe]; exact Or.inr h
  have hS : va_S A s.heap s.heap [] := va_S.rf
  have hK := hKK.1
  have hl := lv_entry ([.ref (ad 31)]) (n := 1) (Nat.le_of_ble_eq_true rfl)
  rw [lg_entry_eq]
  generalize (lg_sl ([.ref (ad 31)]) ++ List.replicate (1 - (lg_sl ([.ref (ad 31)])).length) Slot.unset).toArray = ls at hl ⊢
  have hl : lv_has ls 1 [(0, .ref (ad 31))] := hl
  unfold x_Run_hasEnded_31 at h
  refine lv_aload_n hx hb d_Run_hasEnded_0 rfl (lv_at hl 0 rfl) ?_
  refine xg_31_at hx hb hts hin_ValueStream hown hK hP (hts _ k_294) (fun _ h9 => h9) d_Run_hasEnded_1 ?_
  refine lv_aload_n hx hb d_Run_hasEnded_4 rfl (lv_at hl 0 rfl) ?_
  refine xg_31_program hx hb hts hin_ValueStream hown hK hP (hts _ k_265) (fun _ h9 => h9) d_Run_hasEnded_5 ?_
  refine xg_1_size hx hb hts hin_Program hown hK hP (hts _ k_116) (fun _ h9 => h9) d_Run_hasEnded_8 ?_
  refine lv_icmp_lt (tgt := 18) hx hb d_Run_hasEnded_11 (by decide) (fun hc => ?_) (fun hc => ?_)
  · replace h := if_t hc h
    refine lv_iconst (v := 0) hx hb d_Run_hasEnded_18 (by decide) ?_
    exact q_zret hx hb hr hlocks h hP hD hS d_Run_hasEnded_19
  · replace h := if_f hc h
    refine lv_iconst (v := 1) hx hb d_Run_hasEnded_14 (by decide) ?_
    refine lv_goto (tgt := 19) hx hb d_Run_hasEnded_15 (by decide) ?_
    exact q_zret hx hb hr hlocks h hP hD hS d_Run_hasEnded_19
def x_Stream_leaveFor_31 (z0 : ST) (x1 : Int32) : OR := bnd (stI z0 18 x1) (fun z1 => bnd (stI z1 19 ((z1.1 19) + 1)) (fun z2 => obn (x_Stream_goOver_31 z2) (fun r3 z3 => gib 1 (some (1, z3)))))
set_option maxRecDepth 100000 in
set_option maxHeartbeats 4000000 in
theorem c_x_Stream_leaveFor_31 (l : Launch) (dC : Nat → ClassId) (dI : Nat → Nat → Nat) (cI cZ : ClassId) (ad : Nat → Nat) (z0 : ST) (x1 : Int32) (R : Int32 × ST) (h : x_Stream_leaveFor_31 z0 x1 = some R) : qMi l y_Stream_leaveFor w_Stream_leaveFor 1 20 (KX dC dI cI cZ) (dC, dI) q_cl (wX cI cZ ad) [.ref (ad 31), .int x1] z0 R := by
  intro sz
  refine Met.ofW (cc := b_Stream_leaveFor) (maxL := 2) (ret := (some .boolean)) (by decide) rfl ?_
  intro p e s m args below meth c s₁ B hml hv
  obtain ⟨rfl, hsz, hP, hKK, hD0⟩ := hv
  have hx := B.exec
  have hb := B.bytes
  have hr := B.returns
  have hts : ∀ w ∈ q_big, w.before _ s = true := fun w h => atoms_spec (ws := w_Stream_leaveFor) B.pre w (List.mem_cons_of_mem _ h)
  have hown : s.vm.findClass "SlippedStreams$Stream" = some m.cls := findClass_of_methodNamed B.named
  have hlocks := B.notSynchronized
  subst hsz
  have hD := hD0.self (sz := s.heap.size)
  generalize hAe : va_A (wX cI cZ ad z0) s.heap.size = A at hD ⊢
  have hA : ∀ q : Nat, s.heap.size ≤ q → A q := fun q h => by rw [← hAe]; exact Or.inr h
  have hS : va_S A s.heap s.heap [] := va_S.rf
  have hK := hKK.1
  have hl := lv_entry ([.ref (ad 31), .int x1]) (n := 2) (Nat.le_of_ble_eq_true rfl)
  rw [lg_entry_eq]
  generalize (lg_sl ([.ref (ad 31), .int x1]) ++ List.replicate (2 - (lg_sl ([.ref (ad 31), .int x1])).length) Slot.unset).toArray = ls at hl ⊢
  have hl : lv_has ls 2 [(0, .ref (ad 31)), (1, .int x1)] := hl
  unfold x_Stream_leaveFor_31 at h
  refine lv_aload_n hx hb d_Stream_leaveFor_0 rfl (lv_at hl 0 rfl) ?_
  refine lv_iload_n hx hb d_Stream_leaveFor_1 rfl (lv_at hl 1 rfl) ?_
  obtain ⟨z1, e1, h⟩ := bnd_e h
  refine xp_31_at hx hb hts hin_ValueStream hown hK hP hD hS (hts _ k_286) (fun x9 h9 => u_same (hts _ k_287) x9 h9) d_Stream_leaveFor_2 e1 (fun H locs hP hD hS => ?_)
  refine lv_aload_n hx hb d_Stream_leaveFor_5 rfl (lv_at hl 0 rfl) ?_
  refine lv_dup hx hb d_Stream_leaveFor_6 rfl ?_
  refine xg_31_left hx hb hts hin_ValueStream hown hK hP (hts _ k_260) (fun _ h9 => h9) d_Stream_leaveFor_7 ?_
  refine lv_iconst (v := 1) hx hb d_Stream_leaveFor_10 (by decide) ?_
  refine lv_iadd hx hb d_Stream_leaveFor_11 ?_
  obtain ⟨z2, e2, h⟩ := bnd_e h
  refine xp_31_left hx hb hts hin_ValueStream hown hK hP hD hS (hts _ k_260) (fun _ h9 => h9) d_Stream_leaveFor_12 e2 (fun H locs hP hD hS => ?_)
  refine lv_aload_n hx hb d_Stream_leaveFor_15 rfl (lv_at hl 0 rfl) ?_
  obtain ⟨r3, z3, hc3, h⟩ := obn_e h
  refine q_gov (va_runU (As := []) (rest := []) ⟨hx, hb, hml, hown, hts⟩ (c_x_Stream_goOver_31 l dC dI cI cZ ad z2 _ hc3 _) (va_cwU 0 hts (q_goodL _ (q_l5 k_466 k_1084 k_1 k_468 k_59) k_469) rfl rfl rfl rfl (by decide +kernel) ⟨Nat.le_of_ble_eq_true rfl, Nat.le_of_ble_eq_true rfl⟩) (q_preV qok hKK hP hD (va_recv (ci := 6) (q0 := 31) hK hP rfl rfl)) rfl rfl hl.1 rfl (lv_room (Nat.le_of_ble_eq_true rfl)) d_Stream_leaveFor_16 ⟨Nat.le_refl _, Nat.le_refl _⟩) hD hS hA (fun H locs hP hD hS => ?_)
  refine lv_iconst (v := 1) hx hb d_Stream_leaveFor_19 (by decide) ?_
  exact q_zret hx hb hr hlocks h hP hD hS d_Stream_leaveFor_20
def x_StoreList_give_25 (z0 : ST) (x1 : Int32) : OR := if (z0.1 14) = 0 then (gib 0 (some (0, z0))) else (obn (x_StoreList_know_25 z0 (z0.1 13) x1) (fun r1 z1 => gib 1 (some (1, z1))))
set_option maxRecDepth 100000 in
set_option maxHeartbeats 4000000 in
theorem c_x_StoreList_give_25 (l : Launch) (dC : Nat → ClassId) (dI : Nat → Nat → Nat) (cI cZ : ClassId) (ad : Nat → Nat) (z0 : ST) (x1 : Int32) (R : Int32 × ST) (h : x_StoreList_give_25 z0 x1 = some R) : qMi l y_StoreList_give w_StoreList_give 1 22 (KX dC dI cI cZ) (dC, dI) q_cl (wX cI cZ ad) [.ref (ad 25), .int x1] z0 R := by
  intro sz
  refine Met.ofW (cc := b_StoreList_give) (maxL := 2) (ret := (some .boolean)) (by decide) rfl ?_
  intro p e s m args below meth c s₁ B hml hv
  obtain ⟨rfl, hsz, hP, hKK, hD0⟩ := hv
  have hx := B.exec
  have hb := B.bytes
  have hr := B.returns
  have hts : ∀ w ∈ q_big, w.before _ s = true := fun w h => atoms_spec (ws := w_StoreList_give) B.pre w (List.mem_cons_of_mem _ h)
  have hown : s.vm.findClass "SlippedStreams$StoreList" = some m.cls := findClass_of_methodNamed B.named
  have hlocks := B.notSynchronized
  subst hsz
  have hD := hD0.self (sz := s.heap.size)
  generalize hAe : va_A (wX cI cZ ad z0) s.heap.size = A at hD ⊢
  have hA : ∀ q : Nat, s.heap.size ≤ q → A q := fun q h => by rw [← hAe]; exact Or.inr h
  have hS : va_S A s.heap s.heap [] := va_S.rf
  have hK := hKK.1
  have hl := lv_entry ([.ref (ad 25), .int x1]) (n := 2) (Nat.le_of_ble_eq_true rfl)
  rw [lg_entry_eq]
  generalize (lg_sl ([.ref (ad 25), .int x1]) ++ List.replicate (2 - (lg_sl ([.ref (ad 25), .int x1])).length) Slot.unset).toArray = ls at hl ⊢
  have hl : lv_has ls 2 [(0, .ref (ad 25)), (1, .int x1)] := hl
  unfold x_StoreList_give_25 at h
  refine lv_aload_n hx hb d_StoreList_give_0 rfl (lv_at hl 0 rfl) ?_
  refine xg_25_size hx hb hts hin_StoreList hown hK hP (hts _ k_184) (fun _ h9 => h9) d_StoreList_give_1 ?_
  refine lv_if_ne (tgt := 9) hx hb d_StoreList_give_4 (by decide) (fun hc => ?_) (fun hc => ?_)
  · replace h := if_f hc h
    refine lv_aload_n hx hb d_StoreList_give_9 rfl (lv_at hl 0 rfl) ?_
    refine lv_aload_n hx hb d_StoreList_give_10 rfl (lv_at hl 0 rfl) ?_
    refine xg_25_first hx hb hts hin_StoreList hown hK hP (hts _ k_183) (fun _ h9 => h9) d_StoreList_give_11 ?_
    refine lv_iload_n hx hb d_StoreList_give_14 rfl (lv_at hl 1 rfl) ?_
    obtain ⟨r1, z1, hc1, h⟩ := obn_e h
    refine q_gov (va_runV (As := [.int (z0.1 13), .int x1]) (rest := []) ⟨hx, hb, hml, hown, hts⟩ (c_x_StoreList_know_25 l dC dI cI cZ ad z0 (z0.1 13) x1 _ hc1 _) (cwV 2 hts (q_goodL _ (q_l4 k_586 k_588 k_17 k_57) k_589) rfl rfl rfl (by decide +kernel) ⟨Nat.le_of_ble_eq_true rfl, Nat.le_of_ble_eq_true rfl⟩) (q_preV qok hKK hP hD (va_recv (ci := 4) (q0 := 25) hK hP rfl rfl)) rfl rfl hl.1 rfl (lv_room (Nat.le_of_ble_eq_true rfl)) d_StoreList_give_15 ⟨Nat.le_refl _, Nat.le_refl _⟩) hD hS hA (fun H locs hP hD hS => ?_)
    refine lv_iconst (v := 1) hx hb d_StoreList_give_18 (by decide) ?_
    exact q_zret hx hb hr hlocks h hP hD hS d_StoreList_give_19
  · replace h := if_t hc h
    refine lv_iconst (v := 0) hx hb d_StoreList_give_7 (by decide) ?_
    exact q_zret hx hb hr hlocks h hP hD hS d_StoreList_give_8
def x_Fifo_hasRoomFor_16 (z0 : ST) (x1 : Int32) : OR := if 4 < ((z0.1 6) + x1) then (gib 0 (some (0, z0))) else (gib 1 (some (1, z0)))
set_option maxRecDepth 100000 in
set_option maxHeartbeats 4000000 in
theorem c_x_Fifo_hasRoomFor_16 (l : Launch) (dC : Nat → ClassId) (dI : Nat → Nat → Nat) (cI cZ : ClassId) (ad : Nat → Nat) (z0 : ST) (x1 : Int32) (R : Int32 × ST) (h : x_Fifo_hasRoomFor_16 z0 x1 = some R) : qMi l y_Fifo_hasRoomFor w_Fifo_hasRoomFor 0 0 (KX dC dI cI cZ) (dC, dI) q_cl (wX cI cZ ad) [.ref (ad 16), .int x1] z0 R := by
  intro sz
  refine Met.ofW (cc := b_Fifo_hasRoomFor) (maxL := 2) (ret := (some .boolean)) (by decide) rfl ?_
  intro p e s m args below meth c s₁ B hml hv
  obtain ⟨rfl, hsz, hP, hKK, hD0⟩ := hv
  have hx := B.exec
  have hb := B.bytes
  have hr := B.returns
  have hts : ∀ w ∈ q_big, w.before _ s = true := fun w h => atoms_spec (ws := w_Fifo_hasRoomFor) B.pre w (List.mem_cons_of_mem _ h)
  have hown : s.vm.findClass "SlippedStreams$Fifo" = some m.cls := findClass_of_methodNamed B.named
  have hlocks := B.notSynchronized
  subst hsz
  have hD := hD0.self (sz := s.heap.size)
  generalize hAe : va_A (wX cI cZ ad z0) s.heap.size = A at hD ⊢
  have hA : ∀ q : Nat, s.heap.size ≤ q → A q := fun q h => by rw [← hAe]; exact Or.inr h
  have hS : va_S A s.heap s.heap [] := va_S.rf
  have hK := hKK.1
  have hl := lv_entry ([.ref (ad 16), .int x1]) (n := 2) (Nat.le_of_ble_eq_true rfl)
  rw [lg_entry_eq]
  generalize (lg_sl ([.ref (ad 16), .int x1]) ++ List.replicate (2 - (lg_sl ([.ref (ad 16), .int x1])).length) Slot.unset).toArray = ls at hl ⊢
  have hl : lv_has ls 2 [(0, .ref (ad 16)), (1, .int x1)] := hl
  unfold x_Fifo_hasRoomFor_16 at h
  refine lv_aload_n hx hb d_Fifo_hasRoomFor_0 rfl (lv_at hl 0 rfl) ?_
  refine xg_16_size hx hb hts hin_Fifo hown hK hP (hts _ k_161) (fun _ h9 => h9) d_Fifo_hasRoomFor_1 ?_
  refine lv_iload_n hx hb d_Fifo_hasRoomFor_4 rfl (lv_at hl 1 rfl) ?_
  refine lv_iadd hx hb d_Fifo_hasRoomFor_5 ?_
  refine lv_aload_n hx hb d_Fifo_hasRoomFor_6 rfl (lv_at hl 0 rfl) ?_
  refine xg_16_things hx hb hts hin_Fifo hown hK hP (hts _ k_159) (fun _ h9 => h9) d_Fifo_hasRoomFor_7 ?_
  refine va_alen (v := 4) hx hb hK hP 21 0 rfl rfl rfl d_Fifo_hasRoomFor_10 ?_
  refine lv_icmp_gt (tgt := 18) hx hb d_Fifo_hasRoomFor_11 (by decide) (fun hc => ?_) (fun hc => ?_)
  · replace h := if_t hc h
    refine lv_iconst (v := 0) hx hb d_Fifo_hasRoomFor_18 (by decide) ?_
    exact q_zret hx hb hr hlocks h hP hD hS d_Fifo_hasRoomFor_19
  · replace h := if_f hc h
    refine lv_iconst (v := 1) hx hb d_Fifo_hasRoomFor_14 (by decide) ?_
    refine lv_goto (tgt := 19) hx hb d_Fifo_hasRoomFor_15 (by decide) ?_
    exact q_zret hx hb hr hlocks h hP hD hS d_Fifo_hasRoomFor_19
def x_Fifo_put_16_34 (z0 : ST) (y1 y2 y3 : Int32) : OR := gin y3 4 (bnd (stA z0 13 (upd (z0.2 13) y3.toNatClampNeg y1)) (fun z1 => bnd (stI z1 6 ((z1.1 6) + 1)) (fun z2 => some (0, z2))))
def x_Fifo_put_16 (z0 : ST) (x1 : Int32) : OR := if 4 ≤ ((z0.1 5) + (z0.1 6)) then (x_Fifo_put_16_34 z0 x1 ((z0.1 5) + (z0.1 6)) (((z0.1 5) + (z0.1 6)) - 4)) else (x_Fifo_put_16_34 z0 x1 ((z0.1 5) + (z0.1 6)) ((z0.1 5) + (z0.1 6)))
set_option maxRecDepth 100000 in
set_option maxHeartbeats 4000000 in
theorem c_x_Fifo_put_16 (l : Launch) (dC : Nat → ClassId) (dI : Nat → Nat → Nat) (cI cZ : ClassId) (ad : Nat → Nat) (z0 : ST) (x1 : Int32) (R : Int32 × ST) (h : x_Fifo_put_16 z0 x1 = some R) : qMv l y_Fifo_put w_Fifo_put 0 0 (KX dC dI cI cZ) (dC, dI) q_cl (wX cI cZ ad) [.ref (ad 16), .int x1] z0 R := by
  intro sz
  refine Met.ofW (cc := b_Fifo_put) (maxL := 3) (ret := none) (by decide) rfl ?_
  intro p e s m args below meth c s₁ B hml hv
  obtain ⟨rfl, hsz, hP, hKK, hD0⟩ := hv
  have hx := B.exec
  have hb := B.bytes
  have hr := B.returns
  have hts : ∀ w ∈ q_big, w.before _ s = true := fun w h => atoms_spec (ws := w_Fifo_put) B.pre w (List.mem_cons_of_mem _ h)
  have hown : s.vm.findClass "SlippedStreams$Fifo" = some m.cls := findClass_of_methodNamed B.named
  have hlocks := B.notSynchronized
  subst hsz
  have hD := hD0.self (sz := s.heap.size)
  generalize hAe : va_A (wX cI cZ ad z0) s.heap.size = A at hD ⊢
  have hA : ∀ q : Nat, s.heap.size ≤ q → A q := fun q h => by rw [← hAe]; exact Or.inr h
  have hS : va_S A s.heap s.heap [] := va_S.rf
  have hK := hKK.1
  have hl := lv_entry ([.ref (ad 16), .int x1]) (n := 3) (Nat.le_of_ble_eq_true rfl)
  rw [lg_entry_eq]
  generalize (lg_sl ([.ref (ad 16), .int x1]) ++ List.replicate (3 - (lg_sl ([.ref (ad 16), .int x1])).length) Slot.unset).toArray = ls at hl ⊢
  have hl : lv_has ls 3 [(0, .ref (ad 16)), (1, .int x1)] := hl
  have jp_34 : ∀ (z0 : ST) (y1 y2 y3 : Int32) (H : Heap) (locs : List Loc) (ls : Array Slot), x_Fifo_put_16_34 z0 y1 y2 y3 = some R → va_P (dC, dI) q_cl (wX cI cZ ad z0) H → va_D A (wX cI cZ ad z0) → va_S A s.heap H locs → lv_has ls 3 [(0, .ref (ad 16)), (1, .int y1), (2, .int y2)] → qWv p l e w_Fifo_put 0 0 s m [.ref (ad 16), .int x1] below meth c (dC, dI) q_cl (wX cI cZ ad) A R H locs (F0 m 34 ls [.int y3, .ref (ad 21)]) := by
    intro z0 y1 y2 y3 H locs ls h hP hD hS hl
    unfold x_Fifo_put_16_34 at h
    refine lv_iload_n hx hb d_Fifo_put_34 rfl (lv_at hl 1 rfl) ?_
    obtain ⟨hi, h⟩ := gin_e h
    obtain ⟨z1, e1, h⟩ := bnd_e h
    refine xs_13 hx hb hK hP hD hS hi d_Fifo_put_35 e1 (fun H locs hP hD hS => ?_)
    refine lv_aload_n hx hb d_Fifo_put_36 rfl (lv_at hl 0 rfl) ?_
    refine lv_dup hx hb d_Fifo_put_37 rfl ?_
    refine xg_16_size hx hb hts hin_Fifo hown hK hP (hts _ k_161) (fun _ h9 => h9) d_Fifo_put_38 ?_
    refine lv_iconst (v := 1) hx hb d_Fifo_put_41 (by decide) ?_
    refine lv_iadd hx hb d_Fifo_put_42 ?_
    obtain ⟨z2, e2, h⟩ := bnd_e h
    refine xp_16_size hx hb hts hin_Fifo hown hK hP hD hS (hts _ k_161) (fun _ h9 => h9) d_Fifo_put_43 e2 (fun H locs hP hD hS => ?_)
    exact q_vret hx hb hr hlocks h hP hD hS d_Fifo_put_46
  unfold x_Fifo_put_16 at h
  refine lv_aload_n hx hb d_Fifo_put_0 rfl (lv_at hl 0 rfl) ?_
  refine xg_16_first hx hb hts hin_Fifo hown hK hP (hts _ k_160) (fun _ h9 => h9) d_Fifo_put_1 ?_
  refine lv_aload_n hx hb d_Fifo_put_4 rfl (lv_at hl 0 rfl) ?_
  refine xg_16_size hx hb hts hin_Fifo hown hK hP (hts _ k_161) (fun _ h9 => h9) d_Fifo_put_5 ?_
  refine lv_iadd hx hb d_Fifo_put_8 ?_
  refine lv_istore_n (lv' := [(2, .int ((z0.1 5) + (z0.1 6))), (0, .ref (ad 16)), (1, .int x1)]) hx hb d_Fifo_put_9 rfl hl (by decide) rfl (fun ls hl => ?_)
  refine lv_aload_n hx hb d_Fifo_put_10 rfl (lv_at hl 1 rfl) ?_
  refine xg_16_things hx hb hts hin_Fifo hown hK hP (hts _ k_159) (fun _ h9 => h9) d_Fifo_put_11 ?_
  refine lv_iload_n hx hb d_Fifo_put_14 rfl (lv_at hl 0 rfl) ?_
  refine lv_aload_n hx hb d_Fifo_put_15 rfl (lv_at hl 1 rfl) ?_
  refine xg_16_things hx hb hts hin_Fifo hown hK hP (hts _ k_159) (fun _ h9 => h9) d_Fifo_put_16 ?_
  refine va_alen (v := 4) hx hb hK hP 21 0 rfl rfl rfl d_Fifo_put_19 ?_
  refine lv_icmp_ge (tgt := 27) hx hb d_Fifo_put_20 (by decide) (fun hc => ?_) (fun hc => ?_)
  · replace h := if_t hc h
    refine lv_iload_n hx hb d_Fifo_put_27 rfl (lv_at hl 0 rfl) ?_
    refine lv_aload_n hx hb d_Fifo_put_28 rfl (lv_at hl 1 rfl) ?_
    refine xg_16_things hx hb hts hin_Fifo hown hK hP (hts _ k_159) (fun _ h9 => h9) d_Fifo_put_29 ?_
    refine va_alen (v := 4) hx hb hK hP 21 0 rfl rfl rfl d_Fifo_put_32 ?_
    refine lv_isub hx hb d_Fifo_put_33 ?_
    exact jp_34 z0 x1 ((z0.1 5) + (z0.1 6)) (((z0.1 5) + (z0.1 6)) - 4) _ _ _ h hP hD hS (lv_sub hl [1, 2, 0] rfl)
  · replace h := if_f hc h
    refine lv_iload_n hx hb d_Fifo_put_23 rfl (lv_at hl 0 rfl) ?_
    refine lv_goto (tgt := 34) hx hb d_Fifo_put_24 (by decide) ?_
    exact jp_34 z0 x1 ((z0.1 5) + (z0.1 6)) ((z0.1 5) + (z0.1 6)) _ _ _ h hP hD hS (lv_sub hl [1, 2, 0] rfl)
def x_ValueStream_giveStored_31_56 (z0 : ST) (y1 y2 : Int32) : OR := obn (x_Stream_leaveFor_31 z0 (y1 + 1)) (fun r1 z1 => gib r1 (some (r1, z1)))
def x_ValueStream_giveStored_31 (z0 : ST) (x1 : Int32) : OR := gin x1 24 (gin (z0.2 1 x1.toNatClampNeg) 8 (obn (x_StoreList_give_25 z0 (z0.2 21 (z0.2 1 x1.toNatClampNeg).toNatClampNeg)) (fun r2 z2 => if r2 = 0 then (obn (x_Fifo_hasRoomFor_16 z2 1) (fun r3 z3 => if r3 = 0 then (gib 0 (some (0, z3))) else (obn (x_Fifo_put_16 z3 (z0.2 21 (z0.2 1 x1.toNatClampNeg).toNatClampNeg)) (fun r4 z4 => x_ValueStream_giveStored_31_56 z4 x1 (z0.2 21 (z0.2 1 x1.toNatClampNeg).toNatClampNeg))))) else (x_ValueStream_giveStored_31_56 z2 x1 (z0.2 21 (z0.2 1 x1.toNatClampNeg).toNatClampNeg)))))
set_option maxRecDepth 100000 in
set_option maxHeartbeats 4000000 in
theorem c_x_ValueStream_giveStored_31 (l : Launch) (dC : Nat → ClassId) (dI : Nat → Nat → Nat) (cI cZ : ClassId) (ad : Nat → Nat) (z0 : ST) (x1 : Int32) (R : Int32 × ST) (h : x_ValueStream_giveStored_31 z0 x1 = some R) : qMi l y_ValueStream_giveStored w_ValueStream_giveStored 2 43 (KX dC dI cI cZ) (dC, dI) q_cl (wX cI cZ ad) [.ref (ad 31), .int x1] z0 R := by
  intro sz
  refine Met.ofW (cc := b_ValueStream_giveStored) (maxL := 3) (ret := (some .boolean)) (by decide) rfl ?_
  intro p e s m args below meth c s₁ B hml hv
  obtain ⟨rfl, hsz, hP, hKK, hD0⟩ := hv
  have hx := B.exec
  have hb := B.bytes
  have hr := B.returns
  have hts : ∀ w ∈ q_big, w.before _ s = true := fun w h => atoms_spec (ws := w_ValueStream_giveStored) B.pre w (List.mem_cons_of_mem _ h)
  have hown : s.vm.findClass "SlippedStreams$ValueStream" = some m.cls := findClass_of_methodNamed B.named
  have hlocks := B.notSynchronized
  subst hsz
  have hD := hD0.self (sz := s.heap.size)
  generalize hAe : va_A (wX cI cZ ad z0) s.heap.size = A at hD ⊢
  have hA : ∀ q : Nat, s.heap.size ≤ q → A q := fun q h => by rw [← hAe]; exact Or.inr h
  have hS : va_S A s.heap s.heap [] := va_S.rf
  have hK := hKK.1
  have hl := lv_entry ([.ref (ad 31), .int x1]) (n := 3) (Nat.le_of_ble_eq_true rfl)
  rw [lg_entry_eq]
  generalize (lg_sl ([.ref (ad 31), .int x1]) ++ List.replicate (3 - (lg_sl ([.ref (ad 31), .int x1])).length) Slot.unset).toArray = ls at hl ⊢
  have hl : lv_has ls 3 [(0, .ref (ad 31)), (1, .int x1)] := hl
  have jp_56 : ∀ (z0 : ST) (y1 y2 : Int32) (H : Heap) (locs : List Loc) (ls : Array Slot), x_ValueStream_giveStored_31_56 z0 y1 y2 = some R → va_P (dC, dI) q_cl (wX cI cZ ad z0) H → va_D A (wX cI cZ ad z0) → va_S A s.heap H locs → lv_has ls 3 [(0, .ref (ad 31)), (1, .int y1), (2, .int y2)] → qWi p l e w_ValueStream_giveStored 2 43 s m [.ref (ad 31), .int x1] below meth c (dC, dI) q_cl (wX cI cZ ad) A R H locs (F0 m 56 ls []) := by
    intro z0 y1 y2 H locs ls h hP hD hS hl
    unfold x_ValueStream_giveStored_31_56 at h
    refine lv_aload_n hx hb d_ValueStream_giveStored_56 rfl (lv_at hl 0 rfl) ?_
    refine lv_iload_n hx hb d_ValueStream_giveStored_57 rfl (lv_at hl 1 rfl) ?_
    refine lv_iconst (v := 1) hx hb d_ValueStream_giveStored_58 (by decide) ?_
    refine lv_iadd hx hb d_ValueStream_giveStored_59 ?_
    obtain ⟨r1, z1, hc1, h⟩ := obn_e h
    refine q_goi (va_runU (As := [.int (y1 + 1)]) (rest := []) ⟨hx, hb, hml, hown, hts⟩ (c_x_Stream_leaveFor_31 l dC dI cI cZ ad z0 (y1 + 1) _ hc1 _) (va_cwU 1 hts (q_goodL _ (q_l5 k_697 k_698 k_699 k_567 k_59) k_568) rfl rfl rfl rfl (by decide +kernel) ⟨Nat.le_of_ble_eq_true rfl, Nat.le_of_ble_eq_true rfl⟩) (q_preV qok hKK hP hD (va_recv (ci := 6) (q0 := 31) hK hP rfl rfl)) rfl rfl hl.1 rfl (lv_room (Nat.le_of_ble_eq_true rfl)) d_ValueStream_giveStored_60 ⟨Nat.le_refl _, Nat.le_refl _⟩) hD hS hA (fun H locs hP hD hS => ?_)
    exact q_zret hx hb hr hlocks h hP hD hS d_ValueStream_giveStored_63
  unfold x_ValueStream_giveStored_31 at h
  refine lv_aload_n hx hb d_ValueStream_giveStored_0 rfl (lv_at hl 0 rfl) ?_
  refine xg_31_registers hx hb hts hin_ValueStream hown hK hP (hts _ k_279) (fun x9 h9 => u_same (hts _ k_280) x9 h9) d_ValueStream_giveStored_1 ?_
  refine lv_aload_n hx hb d_ValueStream_giveStored_4 rfl (lv_at hl 0 rfl) ?_
  refine xg_31_program hx hb hts hin_ValueStream hown hK hP (hts _ k_268) (fun x9 h9 => u_same (hts _ k_269) x9 h9) d_ValueStream_giveStored_5 ?_
  refine xg_1_as hx hb hts hin_Program hown hK hP (hts _ k_90) (fun _ h9 => h9) d_ValueStream_giveStored_8 ?_
  refine lv_iload_n hx hb d_ValueStream_giveStored_11 rfl (lv_at hl 1 rfl) ?_
  obtain ⟨hi, h⟩ := gin_e h
  refine xl_1 hx hb hK hP hi d_ValueStream_giveStored_12 ?_
  obtain ⟨hi, h⟩ := gin_e h
  refine xl_21 hx hb hK hP hi d_ValueStream_giveStored_13 ?_
  refine lv_istore_n (lv' := [(2, .int (z0.2 21 (z0.2 1 x1.toNatClampNeg).toNatClampNeg)), (0, .ref (ad 31)), (1, .int x1)]) hx hb d_ValueStream_giveStored_14 rfl hl (by decide) rfl (fun ls hl => ?_)
  refine lv_aload_n hx hb d_ValueStream_giveStored_15 rfl (lv_at hl 1 rfl) ?_
  refine xg_31_link hx hb hts hin_ValueStream hown hK hP (hts _ k_255) (fun x9 h9 => u_same (hts _ k_256) x9 h9) d_ValueStream_giveStored_16 ?_
  refine xg_13_stores hx hb hts hin_Link hown hK hP (hts _ k_224) (fun _ h9 => h9) d_ValueStream_giveStored_19 ?_
  refine lv_iload_n hx hb d_ValueStream_giveStored_22 rfl (lv_at hl 0 rfl) ?_
  obtain ⟨r2, z2, hc2, h⟩ := obn_e h
  refine q_goi (va_runV (As := [.int (z0.2 21 (z0.2 1 x1.toNatClampNeg).toNatClampNeg)]) (rest := []) ⟨hx, hb, hml, hown, hts⟩ (c_x_StoreList_give_25 l dC dI cI cZ ad z0 (z0.2 21 (z0.2 1 x1.toNatClampNeg).toNatClampNeg) _ hc2 _) (cwV 1 hts (q_goodL _ (q_l4 k_724 k_725 k_726 k_57) k_727) rfl rfl rfl (by decide +kernel) ⟨Nat.le_of_ble_eq_true rfl, Nat.le_of_ble_eq_true rfl⟩) (q_preV qok hKK hP hD (va_recv (ci := 4) (q0 := 25) hK hP rfl rfl)) rfl rfl hl.1 rfl (lv_room (Nat.le_of_ble_eq_true rfl)) d_ValueStream_giveStored_23 ⟨Nat.le_refl _, Nat.le_refl _⟩) hD hS hA (fun H locs hP hD hS => ?_)
  refine lv_if_ne (tgt := 56) hx hb d_ValueStream_giveStored_26 (by decide) (fun hc => ?_) (fun hc => ?_)
  · replace h := if_f hc h
    exact jp_56 z2 x1 (z0.2 21 (z0.2 1 x1.toNatClampNeg).toNatClampNeg) _ _ _ h hP hD hS (lv_sub hl [1, 2, 0] rfl)
  · replace h := if_t hc h
    refine lv_aload_n hx hb d_ValueStream_giveStored_29 rfl (lv_at hl 1 rfl) ?_
    refine xg_31_link hx hb hts hin_ValueStream hown hK hP (hts _ k_255) (fun x9 h9 => u_same (hts _ k_256) x9 h9) d_ValueStream_giveStored_30 ?_
    refine xg_13_stored hx hb hts hin_Link hown hK hP (hts _ k_207) (fun _ h9 => h9) d_ValueStream_giveStored_33 ?_
    refine lv_iconst (v := 1) hx hb d_ValueStream_giveStored_36 (by decide) ?_
    obtain ⟨r3, z3, hc3, h⟩ := obn_e h
    refine q_goi (va_runV (As := [.int 1]) (rest := []) ⟨hx, hb, hml, hown, hts⟩ (c_x_Fifo_hasRoomFor_16 l dC dI cI cZ ad z2 1 _ hc3 _) (cwV 1 hts (q_goodL _ (q_l4 k_705 k_596 k_597 k_56) k_598) rfl rfl rfl (by decide +kernel) ⟨Nat.le_of_ble_eq_true rfl, Nat.le_of_ble_eq_true rfl⟩) (q_preV qok hKK hP hD (va_recv (ci := 3) (q0 := 16) hK hP rfl rfl)) rfl rfl hl.1 rfl (lv_room (Nat.le_of_ble_eq_true rfl)) d_ValueStream_giveStored_37 ⟨Nat.le_refl _, Nat.le_refl _⟩) hD hS hA (fun H locs hP hD hS => ?_)
    refine lv_if_ne (tgt := 45) hx hb d_ValueStream_giveStored_40 (by decide) (fun hc => ?_) (fun hc => ?_)
    · replace h := if_f hc h
      refine lv_aload_n hx hb d_ValueStream_giveStored_45 rfl (lv_at hl 1 rfl) ?_
      refine xg_31_link hx hb hts hin_ValueStream hown hK hP (hts _ k_255) (fun x9 h9 => u_same (hts _ k_256) x9 h9) d_ValueStream_giveStored_46 ?_
      refine xg_13_stored hx hb hts hin_Link hown hK hP (hts _ k_207) (fun _ h9 => h9) d_ValueStream_giveStored_49 ?_
      refine lv_iload_n hx hb d_ValueStream_giveStored_52 rfl (lv_at hl 0 rfl) ?_
      obtain ⟨r4, z4, hc4, h⟩ := obn_e h
      refine q_gov (va_runV (As := [.int (z0.2 21 (z0.2 1 x1.toNatClampNeg).toNatClampNeg)]) (rest := []) ⟨hx, hb, hml, hown, hts⟩ (c_x_Fifo_put_16 l dC dI cI cZ ad z3 (z0.2 21 (z0.2 1 x1.toNatClampNeg).toNatClampNeg) _ hc4 _) (cwV 1 hts (q_goodL _ (q_l4 k_728 k_613 k_614 k_56) k_615) rfl rfl rfl (by decide +kernel) ⟨Nat.le_of_ble_eq_true rfl, Nat.le_of_ble_eq_true rfl⟩) (q_preV qok hKK hP hD (va_recv (ci := 3) (q0 := 16) hK hP rfl rfl)) rfl rfl hl.1 rfl (lv_room (Nat.le_of_ble_eq_true rfl)) d_ValueStream_giveStored_53 ⟨Nat.le_refl _, Nat.le_refl _⟩) hD hS hA (fun H locs hP hD hS => ?_)
      exact jp_56 z4 x1 (z0.2 21 (z0.2 1 x1.toNatClampNeg).toNatClampNeg) _ _ _ h hP hD hS (lv_sub hl [1, 2, 0] rfl)
    · replace h := if_t hc h
      refine lv_iconst (v := 0) hx hb d_ValueStream_giveStored_43 (by decide) ?_
      exact q_zret hx hb hr hlocks h hP hD hS d_ValueStream_giveStored_44
