def x_register (z0 : ST) (x1 x2 : Int32) : OR := obn (x_isRegister z0 x1) (fun r1 z1 => if r1 = 0 then (some (0, z1)) else (if x2 = 0 then (obn (x_Program_isAddressRegister_1 z1 x1) (fun r2 z2 => if r2 = 0 then (gin x1 8 (some (z2.2 21 x1.toNatClampNeg, z2))) else (gin x1 8 (some (z2.2 20 x1.toNatClampNeg, z2))))) else (gin x1 8 (some (z1.2 23 x1.toNatClampNeg, z1)))))
set_option maxRecDepth 100000 in
set_option maxHeartbeats 4000000 in
theorem c_x_register (l : Launch) (dC : Nat → ClassId) (dI : Nat → Nat → Nat) (cI cZ : ClassId) (ad : Nat → Nat) (z0 : ST) (x1 x2 : Int32) (R : Int32 × ST) (h : x_register z0 x1 x2 = some R) : qMi l y_SlippedStreams_register w_SlippedStreams_register 1 21 (KX dC dI cI cZ) (dC, dI) q_cl (wX cI cZ ad) [.ref (ad 0), .int x1, .int x2] z0 R := by
  intro sz
  refine Met.ofW (cc := b_SlippedStreams_register) (maxL := 3) (ret := (some .int)) (by decide) rfl ?_
  intro p e s m args below meth c s₁ B hml hv
  obtain ⟨rfl, hsz, hP, hKK, hD0⟩ := hv
  have hx := B.exec
  have hb := B.bytes
  have hr := B.returns
  have hts : ∀ w ∈ q_big, w.before _ s = true := fun w h => atoms_spec (ws := w_SlippedStreams_register) B.pre w (List.mem_cons_of_mem _ h)
  have hown : s.vm.findClass "SlippedStreams" = some m.cls := findClass_of_methodNamed B.named
  have hlocks := B.notSynchronized
  subst hsz
  have hD := hD0.self (sz := s.heap.size)
  generalize hAe : va_A (wX cI cZ ad z0) s.heap.size = A at hD ⊢
  have hA : ∀ q : Nat, s.heap.size ≤ q → A q := fun q h => by rw [← hAe]; exact Or.inr h
  have hS : va_S A s.heap s.heap [] := va_S.rf
  have hK := hKK.1
  have hl := lv_entry ([.ref (ad 0), .int x1, .int x2]) (n := 3) (Nat.le_of_ble_eq_true rfl)
  rw [lg_entry_eq]
  generalize (lg_sl ([.ref (ad 0), .int x1, .int x2]) ++ List.replicate (3 - (lg_sl ([.ref (ad 0), .int x1, .int x2])).length) Slot.unset).toArray = ls at hl ⊢
  have hl : lv_has ls 3 [(0, .ref (ad 0)), (1, .int x1), (2, .int x2)] := hl
  unfold x_register at h
  refine lv_iload_n hx hb d_SlippedStreams_register_0 rfl (lv_at hl 1 rfl) ?_
  obtain ⟨r1, z1, hc1, h⟩ := obn_e h
  refine q_goi (va_runS (As := [.int x1]) (rest := []) ⟨hx, hb, hml, hown, hts⟩ (c_x_isRegister l dC dI cI cZ ad z0 x1 _ hc1 _) (va_cwS 1 hts (q_goodL _ (q_l3 k_778 k_391 k_53) k_392) rfl rfl rfl (by decide +kernel) ⟨Nat.le_of_ble_eq_true rfl, Nat.le_of_ble_eq_true rfl⟩) (q_preS qok hKK hP hD) rfl rfl hl.1 rfl (lv_room (Nat.le_of_ble_eq_true rfl)) d_SlippedStreams_register_1 ⟨Nat.le_refl _, Nat.le_refl _⟩) hD hS hA (fun H locs hP hD hS => ?_)
  refine lv_if_ne (tgt := 9) hx hb d_SlippedStreams_register_4 (by decide) (fun hc => ?_) (fun hc => ?_)
  · replace h := if_f hc h
    refine lv_iload_n hx hb d_SlippedStreams_register_9 rfl (lv_at hl 2 rfl) ?_
    refine lv_if_eq (tgt := 23) hx hb d_SlippedStreams_register_10 (by decide) (fun hc => ?_) (fun hc => ?_)
    · replace h := if_t hc h
      refine lv_aload_n hx hb d_SlippedStreams_register_23 rfl (lv_at hl 0 rfl) ?_
      refine xg_0_program hx hb hts hin_SlippedStreams hown hK hP (hts _ k_361) (fun _ h9 => h9) d_SlippedStreams_register_24 ?_
      refine lv_iload_n hx hb d_SlippedStreams_register_27 rfl (lv_at hl 1 rfl) ?_
      obtain ⟨r2, z2, hc2, h⟩ := obn_e h
      refine q_goi (va_runV (As := [.int x1]) (rest := []) ⟨hx, hb, hml, hown, hts⟩ (c_x_Program_isAddressRegister_1 l dC dI cI cZ ad z1 x1 _ hc2 _) (cwV 1 hts (q_goodL _ (q_l4 k_779 k_410 k_411 k_54) k_412) rfl rfl rfl (by decide +kernel) ⟨Nat.le_of_ble_eq_true rfl, Nat.le_of_ble_eq_true rfl⟩) (q_preV qok hKK hP hD (va_recv (ci := 1) (q0 := 1) hK hP rfl rfl)) rfl rfl hl.1 rfl (lv_room (Nat.le_of_ble_eq_true rfl)) d_SlippedStreams_register_28 ⟨Nat.le_refl _, Nat.le_refl _⟩) hD hS hA (fun H locs hP hD hS => ?_)
      refine lv_if_eq (tgt := 46) hx hb d_SlippedStreams_register_31 (by decide) (fun hc => ?_) (fun hc => ?_)
      · replace h := if_t hc h
        refine lv_aload_n hx hb d_SlippedStreams_register_46 rfl (lv_at hl 0 rfl) ?_
        refine xg_0_valueStream hx hb hts hin_SlippedStreams hown hK hP (hts _ k_365) (fun _ h9 => h9) d_SlippedStreams_register_47 ?_
        refine xg_31_registers hx hb hts hin_ValueStream hown hK hP (hts _ k_285) (fun x9 h9 => u_same (hts _ k_280) x9 h9) d_SlippedStreams_register_50 ?_
        refine lv_iload_n hx hb d_SlippedStreams_register_53 rfl (lv_at hl 1 rfl) ?_
        obtain ⟨hi, h⟩ := gin_e h
        refine xl_21 hx hb hK hP hi d_SlippedStreams_register_54 ?_
        exact q_iret hx hb hr hlocks h hP hD hS d_SlippedStreams_register_55
      · replace h := if_f hc h
        refine lv_aload_n hx hb d_SlippedStreams_register_34 rfl (lv_at hl 0 rfl) ?_
        refine xg_0_addressStream hx hb hts hin_SlippedStreams hown hK hP (hts _ k_364) (fun _ h9 => h9) d_SlippedStreams_register_35 ?_
        refine xg_29_registers hx hb hts hin_AddressStream hown hK hP (hts _ k_284) (fun x9 h9 => u_same (hts _ k_282) x9 h9) d_SlippedStreams_register_38 ?_
        refine lv_iload_n hx hb d_SlippedStreams_register_41 rfl (lv_at hl 1 rfl) ?_
        obtain ⟨hi, h⟩ := gin_e h
        refine xl_20 hx hb hK hP hi d_SlippedStreams_register_42 ?_
        refine lv_goto (tgt := 55) hx hb d_SlippedStreams_register_43 (by decide) ?_
        exact q_iret hx hb hr hlocks h hP hD hS d_SlippedStreams_register_55
    · replace h := if_f hc h
      refine lv_aload_n hx hb d_SlippedStreams_register_13 rfl (lv_at hl 0 rfl) ?_
      refine xg_0_plainRun hx hb hts hin_SlippedStreams hown hK hP (hts _ k_366) (fun _ h9 => h9) d_SlippedStreams_register_14 ?_
      refine xg_35_registers hx hb hts hin_PlainRun hown hK hP (hts _ k_283) (fun x9 h9 => u_same (hts _ k_278) x9 h9) d_SlippedStreams_register_17 ?_
      refine lv_iload_n hx hb d_SlippedStreams_register_20 rfl (lv_at hl 1 rfl) ?_
      obtain ⟨hi, h⟩ := gin_e h
      refine xl_23 hx hb hK hP hi d_SlippedStreams_register_21 ?_
      exact q_iret hx hb hr hlocks h hP hD hS d_SlippedStreams_register_22
  · replace h := if_t hc h
    refine lv_iconst (v := 0) hx hb d_SlippedStreams_register_7 (by decide) ?_
    exact q_iret hx hb hr hlocks h hP hD hS d_SlippedStreams_register_8
def x_peek (z0 : ST) (x1 x2 : Int32) : OR := if x2 = 0 then (gin (x1 &&& 31) 32 (some (z0.2 11 (x1 &&& 31).toNatClampNeg, z0))) else (gin (x1 &&& 31) 32 (some (z0.2 24 (x1 &&& 31).toNatClampNeg, z0)))
set_option maxRecDepth 100000 in
set_option maxHeartbeats 4000000 in
theorem c_x_peek (l : Launch) (dC : Nat → ClassId) (dI : Nat → Nat → Nat) (cI cZ : ClassId) (ad : Nat → Nat) (z0 : ST) (x1 x2 : Int32) (R : Int32 × ST) (h : x_peek z0 x1 x2 = some R) : qMi l y_SlippedStreams_peek w_SlippedStreams_peek 0 0 (KX dC dI cI cZ) (dC, dI) q_cl (wX cI cZ ad) [.ref (ad 0), .int x1, .int x2] z0 R := by
  intro sz
  refine Met.ofW (cc := b_SlippedStreams_peek) (maxL := 4) (ret := (some .int)) (by decide) rfl ?_
  intro p e s m args below meth c s₁ B hml hv
  obtain ⟨rfl, hsz, hP, hKK, hD0⟩ := hv
  have hx := B.exec
  have hb := B.bytes
  have hr := B.returns
  have hts : ∀ w ∈ q_big, w.before _ s = true := fun w h => atoms_spec (ws := w_SlippedStreams_peek) B.pre w (List.mem_cons_of_mem _ h)
  have hown : s.vm.findClass "SlippedStreams" = some m.cls := findClass_of_methodNamed B.named
  have hlocks := B.notSynchronized
  subst hsz
  have hD := hD0.self (sz := s.heap.size)
  generalize hAe : va_A (wX cI cZ ad z0) s.heap.size = A at hD ⊢
  have hA : ∀ q : Nat, s.heap.size ≤ q → A q := fun q h => by rw [← hAe]; exact Or.inr h
  have hS : va_S A s.heap s.heap [] := va_S.rf
  have hK := hKK.1
  have hl := lv_entry ([.ref (ad 0), .int x1, .int x2]) (n := 4) (Nat.le_of_ble_eq_true rfl)
  rw [lg_entry_eq]
  generalize (lg_sl ([.ref (ad 0), .int x1, .int x2]) ++ List.replicate (4 - (lg_sl ([.ref (ad 0), .int x1, .int x2])).length) Slot.unset).toArray = ls at hl ⊢
  have hl : lv_has ls 4 [(0, .ref (ad 0)), (1, .int x1), (2, .int x2)] := hl
  unfold x_peek at h
  refine lv_iload_n hx hb d_SlippedStreams_peek_0 rfl (lv_at hl 1 rfl) ?_
  refine lv_bipush (v := 31) hx hb d_SlippedStreams_peek_1 (by decide) ?_
  refine lv_iand hx hb d_SlippedStreams_peek_3 ?_
  refine lv_istore_n (lv' := [(3, .int (x1 &&& 31)), (0, .ref (ad 0)), (1, .int x1), (2, .int x2)]) hx hb d_SlippedStreams_peek_4 rfl hl (by decide) rfl (fun ls hl => ?_)
  refine lv_iload_n hx hb d_SlippedStreams_peek_5 rfl (lv_at hl 3 rfl) ?_
  refine lv_if_eq (tgt := 21) hx hb d_SlippedStreams_peek_6 (by decide) (fun hc => ?_) (fun hc => ?_)
  · replace h := if_t hc h
    refine lv_aload_n hx hb d_SlippedStreams_peek_21 rfl (lv_at hl 1 rfl) ?_
    refine xg_0_link hx hb hts hin_SlippedStreams hown hK hP (hts _ k_363) (fun _ h9 => h9) d_SlippedStreams_peek_22 ?_
    refine xg_13_memory hx hb hts hin_Link hown hK hP (hts _ k_201) (fun _ h9 => h9) d_SlippedStreams_peek_25 ?_
    refine lv_iload_n hx hb d_SlippedStreams_peek_28 rfl (lv_at hl 0 rfl) ?_
    obtain ⟨hi, h⟩ := gin_e h
    refine xl_11 hx hb hK hP hi d_SlippedStreams_peek_29 ?_
    exact q_iret hx hb hr hlocks h hP hD hS d_SlippedStreams_peek_30
  · replace h := if_f hc h
    refine lv_aload_n hx hb d_SlippedStreams_peek_9 rfl (lv_at hl 1 rfl) ?_
    refine xg_0_plainRun hx hb hts hin_SlippedStreams hown hK hP (hts _ k_366) (fun _ h9 => h9) d_SlippedStreams_peek_10 ?_
    refine xg_35_memory hx hb hts hin_PlainRun hown hK hP (hts _ k_350) (fun _ h9 => h9) d_SlippedStreams_peek_13 ?_
    refine lv_iload_n hx hb d_SlippedStreams_peek_16 rfl (lv_at hl 0 rfl) ?_
    obtain ⟨hi, h⟩ := gin_e h
    refine xl_24 hx hb hK hP hi d_SlippedStreams_peek_17 ?_
    refine lv_goto (tgt := 30) hx hb d_SlippedStreams_peek_18 (by decide) ?_
    exact q_iret hx hb hr hlocks h hP hD hS d_SlippedStreams_peek_30
def x_losses (z0 : ST) : OR := some (z0.1 0, z0)
set_option maxRecDepth 100000 in
set_option maxHeartbeats 4000000 in
theorem c_x_losses (l : Launch) (dC : Nat → ClassId) (dI : Nat → Nat → Nat) (cI cZ : ClassId) (ad : Nat → Nat) (z0 : ST) (R : Int32 × ST) (h : x_losses z0 = some R) : qMi l y_SlippedStreams_losses w_SlippedStreams_losses 0 0 (KX dC dI cI cZ) (dC, dI) q_cl (wX cI cZ ad) [.ref (ad 0)] z0 R := by
  intro sz
  refine Met.ofW (cc := b_SlippedStreams_losses) (maxL := 1) (ret := (some .int)) (by decide) rfl ?_
  intro p e s m args below meth c s₁ B hml hv
  obtain ⟨rfl, hsz, hP, hKK, hD0⟩ := hv
  have hx := B.exec
  have hb := B.bytes
  have hr := B.returns
  have hts : ∀ w ∈ q_big, w.before _ s = true := fun w h => atoms_spec (ws := w_SlippedStreams_losses) B.pre w (List.mem_cons_of_mem _ h)
  have hown : s.vm.findClass "SlippedStreams" = some m.cls := findClass_of_methodNamed B.named
  have hlocks := B.notSynchronized
  subst hsz
  have hD := hD0.self (sz := s.heap.size)
  generalize hAe : va_A (wX cI cZ ad z0) s.heap.size = A at hD ⊢
  have hA : ∀ q : Nat, s.heap.size ≤ q → A q := fun q h => by rw [← hAe]; exact Or.inr h
  have hS : va_S A s.heap s.heap [] := va_S.rf
  have hK := hKK.1
  have hl := lv_entry ([.ref (ad 0)]) (n := 1) (Nat.le_of_ble_eq_true rfl)
  rw [lg_entry_eq]
  generalize (lg_sl ([.ref (ad 0)]) ++ List.replicate (1 - (lg_sl ([.ref (ad 0)])).length) Slot.unset).toArray = ls at hl ⊢
  have hl : lv_has ls 1 [(0, .ref (ad 0))] := hl
  unfold x_losses at h
  refine lv_aload_n hx hb d_SlippedStreams_losses_0 rfl (lv_at hl 0 rfl) ?_
  refine xg_0_lost hx hb hts hin_SlippedStreams hown hK hP (hts _ k_367) (fun _ h9 => h9) d_SlippedStreams_losses_1 ?_
  exact q_iret hx hb hr hlocks h hP hD hS d_SlippedStreams_losses_4
def x_Run_wordAddress_35 (z0 : ST) (x1 : Int32) : OR := gin x1 24 (gin (z0.2 2 x1.toNatClampNeg) 8 (gin x1 24 (some (((z0.2 23 (z0.2 2 x1.toNatClampNeg).toNatClampNeg) + (z0.2 3 x1.toNatClampNeg)) &&& 31, z0))))
set_option maxRecDepth 100000 in
set_option maxHeartbeats 4000000 in
theorem c_x_Run_wordAddress_35 (l : Launch) (dC : Nat → ClassId) (dI : Nat → Nat → Nat) (cI cZ : ClassId) (ad : Nat → Nat) (z0 : ST) (x1 : Int32) (R : Int32 × ST) (h : x_Run_wordAddress_35 z0 x1 = some R) : qMi l y_Run_wordAddress w_Run_wordAddress 0 0 (KX dC dI cI cZ) (dC, dI) q_cl (wX cI cZ ad) [.ref (ad 35), .int x1] z0 R := by
  intro sz
  refine Met.ofW (cc := b_Run_wordAddress) (maxL := 2) (ret := (some .int)) (by decide) rfl ?_
  intro p e s m args below meth c s₁ B hml hv
  obtain ⟨rfl, hsz, hP, hKK, hD0⟩ := hv
  have hx := B.exec
  have hb := B.bytes
  have hr := B.returns
  have hts : ∀ w ∈ q_big, w.before _ s = true := fun w h => atoms_spec (ws := w_Run_wordAddress) B.pre w (List.mem_cons_of_mem _ h)
  have hown : s.vm.findClass "SlippedStreams$Run" = some m.cls := findClass_of_methodNamed B.named
  have hlocks := B.notSynchronized
  subst hsz
  have hD := hD0.self (sz := s.heap.size)
  generalize hAe : va_A (wX cI cZ ad z0) s.heap.size = A at hD ⊢
  have hA : ∀ q : Nat, s.heap.size ≤ q → A q := fun q h => by rw [← hAe]; exact Or.inr h
  have hS : va_S A s.heap s.heap [] := va_S.rf
  have hK := hKK.1
  have hl := lv_entry ([.ref (ad 35), .int x1]) (n := 2) (Nat.le_of_ble_eq_true rfl)
  rw [lg_entry_eq]
  generalize (lg_sl ([.ref (ad 35), .int x1]) ++ List.replicate (2 - (lg_sl ([.ref (ad 35), .int x1])).length) Slot.unset).toArray = ls at hl ⊢
  have hl : lv_has ls 2 [(0, .ref (ad 35)), (1, .int x1)] := hl
  unfold x_Run_wordAddress_35 at h
  refine lv_aload_n hx hb d_Run_wordAddress_0 rfl (lv_at hl 0 rfl) ?_
  refine xg_35_registers hx hb hts hin_PlainRun hown hK hP (hts _ k_274) (fun _ h9 => h9) d_Run_wordAddress_1 ?_
  refine lv_aload_n hx hb d_Run_wordAddress_4 rfl (lv_at hl 0 rfl) ?_
  refine xg_35_program hx hb hts hin_PlainRun hown hK hP (hts _ k_265) (fun _ h9 => h9) d_Run_wordAddress_5 ?_
  refine xg_1_bs hx hb hts hin_Program hown hK hP (hts _ k_94) (fun _ h9 => h9) d_Run_wordAddress_8 ?_
  refine lv_iload_n hx hb d_Run_wordAddress_11 rfl (lv_at hl 1 rfl) ?_
  obtain ⟨hi, h⟩ := gin_e h
  refine xl_2 hx hb hK hP hi d_Run_wordAddress_12 ?_
  obtain ⟨hi, h⟩ := gin_e h
  refine xl_23 hx hb hK hP hi d_Run_wordAddress_13 ?_
  refine lv_aload_n hx hb d_Run_wordAddress_14 rfl (lv_at hl 0 rfl) ?_
  refine xg_35_program hx hb hts hin_PlainRun hown hK hP (hts _ k_265) (fun _ h9 => h9) d_Run_wordAddress_15 ?_
  refine xg_1_cs hx hb hts hin_Program hown hK hP (hts _ k_96) (fun _ h9 => h9) d_Run_wordAddress_18 ?_
  refine lv_iload_n hx hb d_Run_wordAddress_21 rfl (lv_at hl 1 rfl) ?_
  obtain ⟨hi, h⟩ := gin_e h
  refine xl_3 hx hb hK hP hi d_Run_wordAddress_22 ?_
  refine lv_iadd hx hb d_Run_wordAddress_23 ?_
  refine lv_bipush (v := 31) hx hb d_Run_wordAddress_24 (by decide) ?_
  refine lv_iand hx hb d_Run_wordAddress_26 ?_
  exact q_iret hx hb hr hlocks h hP hD hS d_Run_wordAddress_27
def x_Written_write_38_19 (z0 : ST) (y1 : Int32) : OR := bnd (stI z0 22 ((z0.1 22) + 1)) (fun z1 => some (0, z1))
def x_Written_write_38 (z0 : ST) (x1 : Int32) : OR := if 64 ≤ (z0.1 22) then (x_Written_write_38_19 z0 x1) else (gin (z0.1 22) 64 (bnd (stA z0 25 (upd (z0.2 25) (z0.1 22).toNatClampNeg x1)) (fun z2 => x_Written_write_38_19 z2 x1)))
set_option maxRecDepth 100000 in
set_option maxHeartbeats 4000000 in
theorem c_x_Written_write_38 (l : Launch) (dC : Nat → ClassId) (dI : Nat → Nat → Nat) (cI cZ : ClassId) (ad : Nat → Nat) (z0 : ST) (x1 : Int32) (R : Int32 × ST) (h : x_Written_write_38 z0 x1 = some R) : qMv l y_Written_write w_Written_write 0 0 (KX dC dI cI cZ) (dC, dI) q_cl (wX cI cZ ad) [.ref (ad 38), .int x1] z0 R := by
  intro sz
  refine Met.ofW (cc := b_Written_write) (maxL := 2) (ret := none) (by decide) rfl ?_
  intro p e s m args below meth c s₁ B hml hv
  obtain ⟨rfl, hsz, hP, hKK, hD0⟩ := hv
  have hx := B.exec
  have hb := B.bytes
  have hr := B.returns
  have hts : ∀ w ∈ q_big, w.before _ s = true := fun w h => atoms_spec (ws := w_Written_write) B.pre w (List.mem_cons_of_mem _ h)
  have hown : s.vm.findClass "SlippedStreams$Written" = some m.cls := findClass_of_methodNamed B.named
  have hlocks := B.notSynchronized
  subst hsz
  have hD := hD0.self (sz := s.heap.size)
  generalize hAe : va_A (wX cI cZ ad z0) s.heap.size = A at hD ⊢
  have hA : ∀ q : Nat, s.heap.size ≤ q → A q := fun q h => by rw [← hAe]; exact Or.inr h
  have hS : va_S A s.heap s.heap [] := va_S.rf
  have hK := hKK.1
  have hl := lv_entry ([.ref (ad 38), .int x1]) (n := 2) (Nat.le_of_ble_eq_true rfl)
  rw [lg_entry_eq]
  generalize (lg_sl ([.ref (ad 38), .int x1]) ++ List.replicate (2 - (lg_sl ([.ref (ad 38), .int x1])).length) Slot.unset).toArray = ls at hl ⊢
  have hl : lv_has ls 2 [(0, .ref (ad 38)), (1, .int x1)] := hl
  have jp_19 : ∀ (z0 : ST) (y1 : Int32) (H : Heap) (locs : List Loc) (ls : Array Slot), x_Written_write_38_19 z0 y1 = some R → va_P (dC, dI) q_cl (wX cI cZ ad z0) H → va_D A (wX cI cZ ad z0) → va_S A s.heap H locs → lv_has ls 2 [(0, .ref (ad 38)), (1, .int y1)] → qWv p l e w_Written_write 0 0 s m [.ref (ad 38), .int x1] below meth c (dC, dI) q_cl (wX cI cZ ad) A R H locs (F0 m 19 ls []) := by
    intro z0 y1 H locs ls h hP hD hS hl
    unfold x_Written_write_38_19 at h
    refine lv_aload_n hx hb d_Written_write_19 rfl (lv_at hl 0 rfl) ?_
    refine lv_dup hx hb d_Written_write_20 rfl ?_
    refine xg_38_count hx hb hts hin_Written hown hK hP (hts _ k_323) (fun _ h9 => h9) d_Written_write_21 ?_
    refine lv_iconst (v := 1) hx hb d_Written_write_24 (by decide) ?_
    refine lv_iadd hx hb d_Written_write_25 ?_
    obtain ⟨z1, e1, h⟩ := bnd_e h
    refine xp_38_count hx hb hts hin_Written hown hK hP hD hS (hts _ k_323) (fun _ h9 => h9) d_Written_write_26 e1 (fun H locs hP hD hS => ?_)
    exact q_vret hx hb hr hlocks h hP hD hS d_Written_write_29
  unfold x_Written_write_38 at h
  refine lv_aload_n hx hb d_Written_write_0 rfl (lv_at hl 0 rfl) ?_
  refine xg_38_count hx hb hts hin_Written hown hK hP (hts _ k_323) (fun _ h9 => h9) d_Written_write_1 ?_
  refine lv_bipush (v := 64) hx hb d_Written_write_4 (by decide) ?_
  refine lv_icmp_ge (tgt := 19) hx hb d_Written_write_6 (by decide) (fun hc => ?_) (fun hc => ?_)
  · replace h := if_t hc h
    exact jp_19 z0 x1 _ _ _ h hP hD hS (lv_sub hl [0, 1] rfl)
  · replace h := if_f hc h
    refine lv_aload_n hx hb d_Written_write_9 rfl (lv_at hl 0 rfl) ?_
    refine xg_38_kept hx hb hts hin_Written hown hK hP (hts _ k_322) (fun _ h9 => h9) d_Written_write_10 ?_
    refine lv_aload_n hx hb d_Written_write_13 rfl (lv_at hl 0 rfl) ?_
    refine xg_38_count hx hb hts hin_Written hown hK hP (hts _ k_323) (fun _ h9 => h9) d_Written_write_14 ?_
    refine lv_iload_n hx hb d_Written_write_17 rfl (lv_at hl 1 rfl) ?_
    obtain ⟨hi, h⟩ := gin_e h
    obtain ⟨z2, e2, h⟩ := bnd_e h
    refine xs_25 hx hb hK hP hD hS hi d_Written_write_18 e2 (fun H locs hP hD hS => ?_)
    exact jp_19 z2 x1 _ _ _ h hP hD hS (lv_sub hl [0, 1] rfl)
def x_Run_combined_35 (z0 : ST) (x1 : Int32) : OR := gin x1 24 (gin (z0.2 2 x1.toNatClampNeg) 8 (gin x1 24 (gin (z0.2 3 x1.toNatClampNeg) 8 (gin x1 24 (if z0.2 0 x1.toNatClampNeg = 1 then (some ((z0.2 23 (z0.2 2 x1.toNatClampNeg).toNatClampNeg) + (z0.2 23 (z0.2 3 x1.toNatClampNeg).toNatClampNeg), z0)) else (if z0.2 0 x1.toNatClampNeg = 2 then (some ((z0.2 23 (z0.2 2 x1.toNatClampNeg).toNatClampNeg) - (z0.2 23 (z0.2 3 x1.toNatClampNeg).toNatClampNeg), z0)) else (some ((z0.2 23 (z0.2 2 x1.toNatClampNeg).toNatClampNeg) * (z0.2 23 (z0.2 3 x1.toNatClampNeg).toNatClampNeg), z0))))))))
set_option maxRecDepth 100000 in
set_option maxHeartbeats 4000000 in
theorem c_x_Run_combined_35 (l : Launch) (dC : Nat → ClassId) (dI : Nat → Nat → Nat) (cI cZ : ClassId) (ad : Nat → Nat) (z0 : ST) (x1 : Int32) (R : Int32 × ST) (h : x_Run_combined_35 z0 x1 = some R) : qMi l y_Run_combined w_Run_combined 0 0 (KX dC dI cI cZ) (dC, dI) q_cl (wX cI cZ ad) [.ref (ad 35), .int x1] z0 R := by
  intro sz
  refine Met.ofW (cc := b_Run_combined) (maxL := 4) (ret := (some .int)) (by decide) rfl ?_
  intro p e s m args below meth c s₁ B hml hv
  obtain ⟨rfl, hsz, hP, hKK, hD0⟩ := hv
  have hx := B.exec
  have hb := B.bytes
  have hr := B.returns
  have hts : ∀ w ∈ q_big, w.before _ s = true := fun w h => atoms_spec (ws := w_Run_combined) B.pre w (List.mem_cons_of_mem _ h)
  have hown : s.vm.findClass "SlippedStreams$Run" = some m.cls := findClass_of_methodNamed B.named
  have hlocks := B.notSynchronized
  subst hsz
  have hD := hD0.self (sz := s.heap.size)
  generalize hAe : va_A (wX cI cZ ad z0) s.heap.size = A at hD ⊢
  have hA : ∀ q : Nat, s.heap.size ≤ q → A q := fun q h => by rw [← hAe]; exact Or.inr h
  have hS : va_S A s.heap s.heap [] := va_S.rf
  have hK := hKK.1
  have hl := lv_entry ([.ref (ad 35), .int x1]) (n := 4) (Nat.le_of_ble_eq_true rfl)
  rw [lg_entry_eq]
  generalize (lg_sl ([.ref (ad 35), .int x1]) ++ List.replicate (4 - (lg_sl ([.ref (ad 35), .int x1])).length) Slot.unset).toArray = ls at hl ⊢
  have hl : lv_has ls 4 [(0, .ref (ad 35)), (1, .int x1)] := hl
  unfold x_Run_combined_35 at h
  refine lv_aload_n hx hb d_Run_combined_0 rfl (lv_at hl 0 rfl) ?_
  refine xg_35_registers hx hb hts hin_PlainRun hown hK hP (hts _ k_274) (fun _ h9 => h9) d_Run_combined_1 ?_
  refine lv_aload_n hx hb d_Run_combined_4 rfl (lv_at hl 0 rfl) ?_
  refine xg_35_program hx hb hts hin_PlainRun hown hK hP (hts _ k_265) (fun _ h9 => h9) d_Run_combined_5 ?_
  refine xg_1_bs hx hb hts hin_Program hown hK hP (hts _ k_94) (fun _ h9 => h9) d_Run_combined_8 ?_
  refine lv_iload_n hx hb d_Run_combined_11 rfl (lv_at hl 1 rfl) ?_
  obtain ⟨hi, h⟩ := gin_e h
  refine xl_2 hx hb hK hP hi d_Run_combined_12 ?_
  obtain ⟨hi, h⟩ := gin_e h
  refine xl_23 hx hb hK hP hi d_Run_combined_13 ?_
  refine lv_istore_n (lv' := [(2, .int (z0.2 23 (z0.2 2 x1.toNatClampNeg).toNatClampNeg)), (0, .ref (ad 35)), (1, .int x1)]) hx hb d_Run_combined_14 rfl hl (by decide) rfl (fun ls hl => ?_)
  refine lv_aload_n hx hb d_Run_combined_15 rfl (lv_at hl 1 rfl) ?_
  refine xg_35_registers hx hb hts hin_PlainRun hown hK hP (hts _ k_274) (fun _ h9 => h9) d_Run_combined_16 ?_
  refine lv_aload_n hx hb d_Run_combined_19 rfl (lv_at hl 1 rfl) ?_
  refine xg_35_program hx hb hts hin_PlainRun hown hK hP (hts _ k_265) (fun _ h9 => h9) d_Run_combined_20 ?_
  refine xg_1_cs hx hb hts hin_Program hown hK hP (hts _ k_96) (fun _ h9 => h9) d_Run_combined_23 ?_
  refine lv_iload_n hx hb d_Run_combined_26 rfl (lv_at hl 2 rfl) ?_
  obtain ⟨hi, h⟩ := gin_e h
  refine xl_3 hx hb hK hP hi d_Run_combined_27 ?_
  obtain ⟨hi, h⟩ := gin_e h
  refine xl_23 hx hb hK hP hi d_Run_combined_28 ?_
  refine lv_istore_n (lv' := [(3, .int (z0.2 23 (z0.2 3 x1.toNatClampNeg).toNatClampNeg)), (2, .int (z0.2 23 (z0.2 2 x1.toNatClampNeg).toNatClampNeg)), (0, .ref (ad 35)), (1, .int x1)]) hx hb d_Run_combined_29 rfl hl (by decide) rfl (fun ls hl => ?_)
  refine lv_aload_n hx hb d_Run_combined_30 rfl (lv_at hl 2 rfl) ?_
  refine xg_35_program hx hb hts hin_PlainRun hown hK hP (hts _ k_265) (fun _ h9 => h9) d_Run_combined_31 ?_
  refine xg_1_kinds hx hb hts hin_Program hown hK hP (hts _ k_87) (fun _ h9 => h9) d_Run_combined_34 ?_
  refine lv_iload_n hx hb d_Run_combined_37 rfl (lv_at hl 3 rfl) ?_
  obtain ⟨hi, h⟩ := gin_e h
  refine xl_0 hx hb hK hP hi d_Run_combined_38 ?_
  by_cases hc0 : z0.2 0 x1.toNatClampNeg = 1
  · replace h := if_t hc0 h
    refine lv_lookup (tgt := 64) (off := 25) hx hb d_Run_combined_39 (by decide) (by rw [hc0]; rfl) (by decide) ?_
    refine lv_iload_n hx hb d_Run_combined_64 rfl (lv_at hl 1 rfl) ?_
    refine lv_iload_n hx hb d_Run_combined_65 rfl (lv_at hl 0 rfl) ?_
    refine lv_iadd hx hb d_Run_combined_66 ?_
    exact q_iret hx hb hr hlocks h hP hD hS d_Run_combined_67
  · replace h := if_f hc0 h
    by_cases hc1 : z0.2 0 x1.toNatClampNeg = 2
    · replace h := if_t hc1 h
      refine lv_lookup (tgt := 68) (off := 29) hx hb d_Run_combined_39 (by decide) (by rw [hc1]; rfl) (by decide) ?_
      refine lv_iload_n hx hb d_Run_combined_68 rfl (lv_at hl 1 rfl) ?_
      refine lv_iload_n hx hb d_Run_combined_69 rfl (lv_at hl 0 rfl) ?_
      refine lv_isub hx hb d_Run_combined_70 ?_
      exact q_iret hx hb hr hlocks h hP hD hS d_Run_combined_71
    · replace h := if_f hc1 h
      refine lv_lookup (tgt := 72) (off := 33) hx hb d_Run_combined_39 (by decide) ((lv_osw hc0 (by decide)).trans ((lv_osw hc1 (by decide)).trans rfl)) (by decide) ?_
      refine lv_iload_n hx hb d_Run_combined_72 rfl (lv_at hl 1 rfl) ?_
      refine lv_iload_n hx hb d_Run_combined_73 rfl (lv_at hl 0 rfl) ?_
      refine lv_imul hx hb d_Run_combined_74 ?_
      exact q_iret hx hb hr hlocks h hP hD hS d_Run_combined_75
def x_Run_compute_35_42 (z0 : ST) (y1 y2 y3 : Int32) : OR := gin y2 8 (bnd (stA z0 23 (upd (z0.2 23) y2.toNatClampNeg y3)) (fun z1 => some (0, z1)))
def x_Run_compute_35 (z0 : ST) (x1 : Int32) : OR := gin x1 24 (gin x1 24 (if (z0.2 0 x1.toNatClampNeg) = 0 then (gin x1 24 (x_Run_compute_35_42 z0 x1 (z0.2 1 x1.toNatClampNeg) (z0.2 3 x1.toNatClampNeg))) else (obn (x_Run_combined_35 z0 x1) (fun r2 z2 => x_Run_compute_35_42 z2 x1 (z0.2 1 x1.toNatClampNeg) r2))))
set_option maxRecDepth 100000 in
set_option maxHeartbeats 4000000 in
theorem c_x_Run_compute_35 (l : Launch) (dC : Nat → ClassId) (dI : Nat → Nat → Nat) (cI cZ : ClassId) (ad : Nat → Nat) (z0 : ST) (x1 : Int32) (R : Int32 × ST) (h : x_Run_compute_35 z0 x1 = some R) : qMv l y_Run_compute w_Run_compute 1 23 (KX dC dI cI cZ) (dC, dI) q_cl (wX cI cZ ad) [.ref (ad 35), .int x1] z0 R := by
  intro sz
  refine Met.ofW (cc := b_Run_compute) (maxL := 2) (ret := none) (by decide) rfl ?_
  intro p e s m args below meth c s₁ B hml hv
  obtain ⟨rfl, hsz, hP, hKK, hD0⟩ := hv
  have hx := B.exec
  have hb := B.bytes
  have hr := B.returns
  have hts : ∀ w ∈ q_big, w.before _ s = true := fun w h => atoms_spec (ws := w_Run_compute) B.pre w (List.mem_cons_of_mem _ h)
  have hown : s.vm.findClass "SlippedStreams$Run" = some m.cls := findClass_of_methodNamed B.named
  have hlocks := B.notSynchronized
  subst hsz
  have hD := hD0.self (sz := s.heap.size)
  generalize hAe : va_A (wX cI cZ ad z0) s.heap.size = A at hD ⊢
  have hA : ∀ q : Nat, s.heap.size ≤ q → A q := fun q h => by rw [← hAe]; exact Or.inr h
  have hS : va_S A s.heap s.heap [] := va_S.rf
  have hK := hKK.1
  have hl := lv_entry ([.ref (ad 35), .int x1]) (n := 2) (Nat.le_of_ble_eq_true rfl)
  rw [lg_entry_eq]
  generalize (lg_sl ([.ref (ad 35), .int x1]) ++ List.replicate (2 - (lg_sl ([.ref (ad 35), .int x1])).length) Slot.unset).toArray = ls at hl ⊢
  have hl : lv_has ls 2 [(0, .ref (ad 35)), (1, .int x1)] := hl
  have jp_42 : ∀ (z0 : ST) (y1 y2 y3 : Int32) (H : Heap) (locs : List Loc) (ls : Array Slot), x_Run_compute_35_42 z0 y1 y2 y3 = some R → va_P (dC, dI) q_cl (wX cI cZ ad z0) H → va_D A (wX cI cZ ad z0) → va_S A s.heap H locs → lv_has ls 2 [(0, .ref (ad 35)), (1, .int y1)] → qWv p l e w_Run_compute 1 23 s m [.ref (ad 35), .int x1] below meth c (dC, dI) q_cl (wX cI cZ ad) A R H locs (F0 m 42 ls [.int y3, .int y2, .ref (ad 36)]) := by
    intro z0 y1 y2 y3 H locs ls h hP hD hS hl
    unfold x_Run_compute_35_42 at h
    obtain ⟨hi, h⟩ := gin_e h
    obtain ⟨z1, e1, h⟩ := bnd_e h
    refine xs_23 hx hb hK hP hD hS hi d_Run_compute_42 e1 (fun H locs hP hD hS => ?_)
    exact q_vret hx hb hr hlocks h hP hD hS d_Run_compute_43
  unfold x_Run_compute_35 at h
  refine lv_aload_n hx hb d_Run_compute_0 rfl (lv_at hl 0 rfl) ?_
  refine xg_35_registers hx hb hts hin_PlainRun hown hK hP (hts _ k_274) (fun _ h9 => h9) d_Run_compute_1 ?_
  refine lv_aload_n hx hb d_Run_compute_4 rfl (lv_at hl 0 rfl) ?_
  refine xg_35_program hx hb hts hin_PlainRun hown hK hP (hts _ k_265) (fun _ h9 => h9) d_Run_compute_5 ?_
  refine xg_1_as hx hb hts hin_Program hown hK hP (hts _ k_92) (fun _ h9 => h9) d_Run_compute_8 ?_
  refine lv_iload_n hx hb d_Run_compute_11 rfl (lv_at hl 1 rfl) ?_
  obtain ⟨hi, h⟩ := gin_e h
  refine xl_1 hx hb hK hP hi d_Run_compute_12 ?_
  refine lv_aload_n hx hb d_Run_compute_13 rfl (lv_at hl 0 rfl) ?_
  refine xg_35_program hx hb hts hin_PlainRun hown hK hP (hts _ k_265) (fun _ h9 => h9) d_Run_compute_14 ?_
  refine xg_1_kinds hx hb hts hin_Program hown hK hP (hts _ k_87) (fun _ h9 => h9) d_Run_compute_17 ?_
  refine lv_iload_n hx hb d_Run_compute_20 rfl (lv_at hl 1 rfl) ?_
  obtain ⟨hi, h⟩ := gin_e h
  refine xl_0 hx hb hK hP hi d_Run_compute_21 ?_
  refine lv_if_ne (tgt := 37) hx hb d_Run_compute_22 (by decide) (fun hc => ?_) (fun hc => ?_)
  · replace h := if_f hc h
    refine lv_aload_n hx hb d_Run_compute_37 rfl (lv_at hl 0 rfl) ?_
    refine lv_iload_n hx hb d_Run_compute_38 rfl (lv_at hl 1 rfl) ?_
    obtain ⟨r2, z2, hc2, h⟩ := obn_e h
    refine q_goi (va_runU (As := [.int x1]) (rest := [.int (z0.2 1 x1.toNatClampNeg), .ref (ad 36)]) ⟨hx, hb, hml, hown, hts⟩ (c_x_Run_combined_35 l dC dI cI cZ ad z0 x1 _ hc2 _) (va_cwU 1 hts (q_goodL _ (q_l5 k_630 k_1088 k_4 k_632 k_58) k_633) rfl rfl rfl rfl (by decide +kernel) ⟨Nat.le_of_ble_eq_true rfl, Nat.le_of_ble_eq_true rfl⟩) (q_preV qok hKK hP hD (va_recv (ci := 8) (q0 := 35) hK hP rfl rfl)) rfl rfl hl.1 rfl (lv_room (Nat.le_of_ble_eq_true rfl)) d_Run_compute_39 ⟨Nat.le_refl _, Nat.le_refl _⟩) hD hS hA (fun H locs hP hD hS => ?_)
    exact jp_42 z2 x1 (z0.2 1 x1.toNatClampNeg) r2 _ _ _ h hP hD hS (lv_sub hl [0, 1] rfl)
  · replace h := if_t hc h
    refine lv_aload_n hx hb d_Run_compute_25 rfl (lv_at hl 0 rfl) ?_
    refine xg_35_program hx hb hts hin_PlainRun hown hK hP (hts _ k_265) (fun _ h9 => h9) d_Run_compute_26 ?_
    refine xg_1_cs hx hb hts hin_Program hown hK hP (hts _ k_96) (fun _ h9 => h9) d_Run_compute_29 ?_
    refine lv_iload_n hx hb d_Run_compute_32 rfl (lv_at hl 1 rfl) ?_
    obtain ⟨hi, h⟩ := gin_e h
    refine xl_3 hx hb hK hP hi d_Run_compute_33 ?_
    refine lv_goto (tgt := 42) hx hb d_Run_compute_34 (by decide) ?_
    exact jp_42 z0 x1 (z0.2 1 x1.toNatClampNeg) (z0.2 3 x1.toNatClampNeg) _ _ _ h hP hD hS (lv_sub hl [0, 1] rfl)
def x_PlainRun_perform_35 (z0 : ST) (x1 : Int32) : OR := gin x1 24 (gin x1 24 (if z0.2 0 x1.toNatClampNeg = 4 then (obn (x_Run_wordAddress_35 z0 x1) (fun r1 z1 => gin r1 32 (gin (z0.2 1 x1.toNatClampNeg) 8 (bnd (stA z1 23 (upd (z1.2 23) (z0.2 1 x1.toNatClampNeg).toNatClampNeg (z1.2 24 r1.toNatClampNeg))) (fun z2 => some (0, z2)))))) else (if z0.2 0 x1.toNatClampNeg = 5 then (obn (x_Run_wordAddress_35 z0 x1) (fun r3 z3 => gin (z0.2 1 x1.toNatClampNeg) 8 (gin r3 32 (bnd (stA z3 24 (upd (z3.2 24) r3.toNatClampNeg (z3.2 23 (z0.2 1 x1.toNatClampNeg).toNatClampNeg))) (fun z4 => some (0, z4)))))) else (if z0.2 0 x1.toNatClampNeg = 6 then (some (0, z0)) else (if z0.2 0 x1.toNatClampNeg = 7 then (some (0, z0)) else (if z0.2 0 x1.toNatClampNeg = 8 then (gin (z0.2 1 x1.toNatClampNeg) 8 (obn (x_Written_write_38 z0 (z0.2 23 (z0.2 1 x1.toNatClampNeg).toNatClampNeg)) (fun r5 z5 => some (0, z5)))) else (obn (x_Run_compute_35 z0 x1) (fun r6 z6 => some (0, z6)))))))))
set_option maxRecDepth 100000 in
set_option maxHeartbeats 4000000 in
theorem c_x_PlainRun_perform_35 (l : Launch) (dC : Nat → ClassId) (dI : Nat → Nat → Nat) (cI cZ : ClassId) (ad : Nat → Nat) (z0 : ST) (x1 : Int32) (R : Int32 × ST) (h : x_PlainRun_perform_35 z0 x1 = some R) : qMv l y_PlainRun_perform w_PlainRun_perform 2 44 (KX dC dI cI cZ) (dC, dI) q_cl (wX cI cZ ad) [.ref (ad 35), .int x1] z0 R := by
  intro sz
  refine Met.ofW (cc := b_PlainRun_perform) (maxL := 3) (ret := none) (by decide) rfl ?_
  intro p e s m args below meth c s₁ B hml hv
  obtain ⟨rfl, hsz, hP, hKK, hD0⟩ := hv
  have hx := B.exec
  have hb := B.bytes
  have hr := B.returns
  have hts : ∀ w ∈ q_big, w.before _ s = true := fun w h => atoms_spec (ws := w_PlainRun_perform) B.pre w (List.mem_cons_of_mem _ h)
  have hown : s.vm.findClass "SlippedStreams$PlainRun" = some m.cls := findClass_of_methodNamed B.named
  have hlocks := B.notSynchronized
  subst hsz
  have hD := hD0.self (sz := s.heap.size)
  generalize hAe : va_A (wX cI cZ ad z0) s.heap.size = A at hD ⊢
  have hA : ∀ q : Nat, s.heap.size ≤ q → A q := fun q h => by rw [← hAe]; exact Or.inr h
  have hS : va_S A s.heap s.heap [] := va_S.rf
  have hK := hKK.1
  have hl := lv_entry ([.ref (ad 35), .int x1]) (n := 3) (Nat.le_of_ble_eq_true rfl)
  rw [lg_entry_eq]
  generalize (lg_sl ([.ref (ad 35), .int x1]) ++ List.replicate (3 - (lg_sl ([.ref (ad 35), .int x1])).length) Slot.unset).toArray = ls at hl ⊢
  have hl : lv_has ls 3 [(0, .ref (ad 35)), (1, .int x1)] := hl
  unfold x_PlainRun_perform_35 at h
  refine lv_aload_n hx hb d_PlainRun_perform_0 rfl (lv_at hl 0 rfl) ?_
  refine xg_35_program hx hb hts hin_PlainRun hown hK hP (hts _ k_270) (fun x9 h9 => u_same (hts _ k_271) x9 h9) d_PlainRun_perform_1 ?_
  refine xg_1_as hx hb hts hin_Program hown hK hP (hts _ k_89) (fun _ h9 => h9) d_PlainRun_perform_4 ?_
  refine lv_iload_n hx hb d_PlainRun_perform_7 rfl (lv_at hl 1 rfl) ?_
  obtain ⟨hi, h⟩ := gin_e h
  refine xl_1 hx hb hK hP hi d_PlainRun_perform_8 ?_
  refine lv_istore_n (lv' := [(2, .int (z0.2 1 x1.toNatClampNeg)), (0, .ref (ad 35)), (1, .int x1)]) hx hb d_PlainRun_perform_9 rfl hl (by decide) rfl (fun ls hl => ?_)
  refine lv_aload_n hx hb d_PlainRun_perform_10 rfl (lv_at hl 1 rfl) ?_
  refine xg_35_program hx hb hts hin_PlainRun hown hK hP (hts _ k_270) (fun x9 h9 => u_same (hts _ k_271) x9 h9) d_PlainRun_perform_11 ?_
  refine xg_1_kinds hx hb hts hin_Program hown hK hP (hts _ k_85) (fun _ h9 => h9) d_PlainRun_perform_14 ?_
  refine lv_iload_n hx hb d_PlainRun_perform_17 rfl (lv_at hl 2 rfl) ?_
  obtain ⟨hi, h⟩ := gin_e h
  refine xl_0 hx hb hK hP hi d_PlainRun_perform_18 ?_
  by_cases hc0 : z0.2 0 x1.toNatClampNeg = 4
  · replace h := if_t hc0 h
    refine lv_tableIn (tgt := 52) (off := 33) hx hb d_PlainRun_perform_19 (by rw [hc0]; decide) (by rw [hc0]; decide) (by rw [hc0]; rfl) (by decide) ?_
    refine lv_aload_n hx hb d_PlainRun_perform_52 rfl (lv_at hl 1 rfl) ?_
    refine xg_35_registers hx hb hts hin_PlainRun hown hK hP (hts _ k_277) (fun x9 h9 => u_same (hts _ k_278) x9 h9) d_PlainRun_perform_53 ?_
    refine lv_iload_n hx hb d_PlainRun_perform_56 rfl (lv_at hl 0 rfl) ?_
    refine lv_aload_n hx hb d_PlainRun_perform_57 rfl (lv_at hl 1 rfl) ?_
    refine xg_35_memory hx hb hts hin_PlainRun hown hK hP (hts _ k_349) (fun _ h9 => h9) d_PlainRun_perform_58 ?_
    refine lv_aload_n hx hb d_PlainRun_perform_61 rfl (lv_at hl 1 rfl) ?_
    refine lv_iload_n hx hb d_PlainRun_perform_62 rfl (lv_at hl 2 rfl) ?_
    obtain ⟨r1, z1, hc1, h⟩ := obn_e h
    refine q_goi (va_runU (As := [.int x1]) (rest := [.ref (ad 37), .int (z0.2 1 x1.toNatClampNeg), .ref (ad 36)]) ⟨hx, hb, hml, hown, hts⟩ (c_x_Run_wordAddress_35 l dC dI cI cZ ad z0 x1 _ hc1 _) (va_cwU 1 hts (q_goodL _ (q_l5 k_676 k_677 k_678 k_553 k_58) k_554) rfl rfl rfl rfl (by decide +kernel) ⟨Nat.le_of_ble_eq_true rfl, Nat.le_of_ble_eq_true rfl⟩) (q_preV qok hKK hP hD (va_recv (ci := 8) (q0 := 35) hK hP rfl rfl)) rfl rfl hl.1 rfl (lv_room (Nat.le_of_ble_eq_true rfl)) d_PlainRun_perform_63 ⟨Nat.le_refl _, Nat.le_refl _⟩) hD hS hA (fun H locs hP hD hS => ?_)
    obtain ⟨hi, h⟩ := gin_e h
    refine xl_24 hx hb hK hP hi d_PlainRun_perform_66 ?_
    obtain ⟨hi, h⟩ := gin_e h
    obtain ⟨z2, e2, h⟩ := bnd_e h
    refine xs_23 hx hb hK hP hD hS hi d_PlainRun_perform_67 e2 (fun H locs hP hD hS => ?_)
    refine lv_goto (tgt := 114) hx hb d_PlainRun_perform_68 (by decide) ?_
    exact q_vret hx hb hr hlocks h hP hD hS d_PlainRun_perform_114
  · replace h := if_f hc0 h
    by_cases hc1 : z0.2 0 x1.toNatClampNeg = 5
    · replace h := if_t hc1 h
      refine lv_tableIn (tgt := 71) (off := 52) hx hb d_PlainRun_perform_19 (by rw [hc1]; decide) (by rw [hc1]; decide) (by rw [hc1]; rfl) (by decide) ?_
      refine lv_aload_n hx hb d_PlainRun_perform_71 rfl (lv_at hl 1 rfl) ?_
      refine xg_35_memory hx hb hts hin_PlainRun hown hK hP (hts _ k_349) (fun _ h9 => h9) d_PlainRun_perform_72 ?_
      refine lv_aload_n hx hb d_PlainRun_perform_75 rfl (lv_at hl 1 rfl) ?_
      refine lv_iload_n hx hb d_PlainRun_perform_76 rfl (lv_at hl 2 rfl) ?_
      obtain ⟨r3, z3, hc3, h⟩ := obn_e h
      refine q_goi (va_runU (As := [.int x1]) (rest := [.ref (ad 37)]) ⟨hx, hb, hml, hown, hts⟩ (c_x_Run_wordAddress_35 l dC dI cI cZ ad z0 x1 _ hc3 _) (va_cwU 1 hts (q_goodL _ (q_l5 k_676 k_677 k_678 k_553 k_58) k_554) rfl rfl rfl rfl (by decide +kernel) ⟨Nat.le_of_ble_eq_true rfl, Nat.le_of_ble_eq_true rfl⟩) (q_preV qok hKK hP hD (va_recv (ci := 8) (q0 := 35) hK hP rfl rfl)) rfl rfl hl.1 rfl (lv_room (Nat.le_of_ble_eq_true rfl)) d_PlainRun_perform_77 ⟨Nat.le_refl _, Nat.le_refl _⟩) hD hS hA (fun H locs hP hD hS => ?_)
      refine lv_aload_n hx hb d_PlainRun_perform_80 rfl (lv_at hl 1 rfl) ?_
      refine xg_35_registers hx hb hts hin_PlainRun hown hK hP (hts _ k_277) (fun x9 h9 => u_same (hts _ k_278) x9 h9) d_PlainRun_perform_81 ?_
      refine lv_iload_n hx hb d_PlainRun_perform_84 rfl (lv_at hl 0 rfl) ?_
      obtain ⟨hi, h⟩ := gin_e h
      refine xl_23 hx hb hK hP hi d_PlainRun_perform_85 ?_
      obtain ⟨hi, h⟩ := gin_e h
      obtain ⟨z4, e4, h⟩ := bnd_e h
      refine xs_24 hx hb hK hP hD hS hi d_PlainRun_perform_86 e4 (fun H locs hP hD hS => ?_)
      refine lv_goto (tgt := 114) hx hb d_PlainRun_perform_87 (by decide) ?_
      exact q_vret hx hb hr hlocks h hP hD hS d_PlainRun_perform_114
    · replace h := if_f hc1 h
      by_cases hc2 : z0.2 0 x1.toNatClampNeg = 6
      · replace h := if_t hc2 h
        refine lv_tableIn (tgt := 106) (off := 87) hx hb d_PlainRun_perform_19 (by rw [hc2]; decide) (by rw [hc2]; decide) (by rw [hc2]; rfl) (by decide) ?_
        refine lv_goto (tgt := 114) hx hb d_PlainRun_perform_106 (by decide) ?_
        exact q_vret hx hb hr hlocks h hP hD hS d_PlainRun_perform_114
      · replace h := if_f hc2 h
        by_cases hc3 : z0.2 0 x1.toNatClampNeg = 7
        · replace h := if_t hc3 h
          refine lv_tableIn (tgt := 106) (off := 87) hx hb d_PlainRun_perform_19 (by rw [hc3]; decide) (by rw [hc3]; decide) (by rw [hc3]; rfl) (by decide) ?_
          refine lv_goto (tgt := 114) hx hb d_PlainRun_perform_106 (by decide) ?_
          exact q_vret hx hb hr hlocks h hP hD hS d_PlainRun_perform_114
        · replace h := if_f hc3 h
          by_cases hc4 : z0.2 0 x1.toNatClampNeg = 8
          · replace h := if_t hc4 h
            refine lv_tableIn (tgt := 90) (off := 71) hx hb d_PlainRun_perform_19 (by rw [hc4]; decide) (by rw [hc4]; decide) (by rw [hc4]; rfl) (by decide) ?_
            refine lv_aload_n hx hb d_PlainRun_perform_90 rfl (lv_at hl 1 rfl) ?_
            refine xg_35_written hx hb hts hin_PlainRun hown hK hP (hts _ k_351) (fun _ h9 => h9) d_PlainRun_perform_91 ?_
            refine lv_aload_n hx hb d_PlainRun_perform_94 rfl (lv_at hl 1 rfl) ?_
            refine xg_35_registers hx hb hts hin_PlainRun hown hK hP (hts _ k_277) (fun x9 h9 => u_same (hts _ k_278) x9 h9) d_PlainRun_perform_95 ?_
            refine lv_iload_n hx hb d_PlainRun_perform_98 rfl (lv_at hl 0 rfl) ?_
            obtain ⟨hi, h⟩ := gin_e h
            refine xl_23 hx hb hK hP hi d_PlainRun_perform_99 ?_
            obtain ⟨r5, z5, hc5, h⟩ := obn_e h
            refine q_gov (va_runV (As := [.int (z0.2 23 (z0.2 1 x1.toNatClampNeg).toNatClampNeg)]) (rest := []) ⟨hx, hb, hml, hown, hts⟩ (c_x_Written_write_38 l dC dI cI cZ ad z0 (z0.2 23 (z0.2 1 x1.toNatClampNeg).toNatClampNeg) _ hc5 _) (cwV 1 hts (q_goodL _ (q_l4 k_679 k_680 k_681 k_62) k_682) rfl rfl rfl (by decide +kernel) ⟨Nat.le_of_ble_eq_true rfl, Nat.le_of_ble_eq_true rfl⟩) (q_preV qok hKK hP hD (va_recv (ci := 7) (q0 := 38) hK hP rfl rfl)) rfl rfl hl.1 rfl (lv_room (Nat.le_of_ble_eq_true rfl)) d_PlainRun_perform_100 ⟨Nat.le_refl _, Nat.le_refl _⟩) hD hS hA (fun H locs hP hD hS => ?_)
            refine lv_goto (tgt := 114) hx hb d_PlainRun_perform_103 (by decide) ?_
            exact q_vret hx hb hr hlocks h hP hD hS d_PlainRun_perform_114
          · replace h := if_f hc4 h
            refine lv_tableOut (tgt := 109) hx hb d_PlainRun_perform_19 (by have g0 := lv_neT hc0 (a := 4) (by decide); have g1 := lv_neT hc1 (a := 5) (by decide); have g2 := lv_neT hc2 (a := 6) (by decide); have g3 := lv_neT hc3 (a := 7) (by decide); have g4 := lv_neT hc4 (a := 8) (by decide); omega) (by decide) ?_
            refine lv_aload_n hx hb d_PlainRun_perform_109 rfl (lv_at hl 1 rfl) ?_
            refine lv_iload_n hx hb d_PlainRun_perform_110 rfl (lv_at hl 2 rfl) ?_
            obtain ⟨r6, z6, hc6, h⟩ := obn_e h
            refine q_gov (va_runU (As := [.int x1]) (rest := []) ⟨hx, hb, hml, hown, hts⟩ (c_x_Run_compute_35 l dC dI cI cZ ad z0 x1 _ hc6 _) (va_cwU 1 hts (q_goodL _ (q_l5 k_683 k_684 k_685 k_628 k_58) k_629) rfl rfl rfl rfl (by decide +kernel) ⟨Nat.le_of_ble_eq_true rfl, Nat.le_of_ble_eq_true rfl⟩) (q_preV qok hKK hP hD (va_recv (ci := 8) (q0 := 35) hK hP rfl rfl)) rfl rfl hl.1 rfl (lv_room (Nat.le_of_ble_eq_true rfl)) d_PlainRun_perform_111 ⟨Nat.le_refl _, Nat.le_refl _⟩) hD hS hA (fun H locs hP hD hS => ?_)
            exact q_vret hx hb hr hlocks h hP hD hS d_PlainRun_perform_114
def x_Run_hasEnded_35 (z0 : ST) : OR := if (z0.1 21) < (z0.1 1) then (gib 0 (some (0, z0))) else (gib 1 (some (1, z0)))
set_option maxRecDepth 100000 in
set_option maxHeartbeats 4000000 in
theorem c_x_Run_hasEnded_35 (l : Launch) (dC : Nat → ClassId) (dI : Nat → Nat → Nat) (cI cZ : ClassId) (ad : Nat → Nat) (z0 : ST) (R : Int32 × ST) (h : x_Run_hasEnded_35 z0 = some R) : qMi l y_Run_hasEnded w_Run_hasEnded 0 0 (KX dC dI cI cZ) (dC, dI) q_cl (wX cI cZ ad) [.ref (ad 35)] z0 R := by
  intro sz
  refine Met.ofW (cc := b_Run_hasEnded) (maxL := 1) (ret := (some .boolean)) (by decide) rfl ?_
  intro p e s m args below meth c s₁ B hml hv
  obtain ⟨rfl, hsz, hP, hKK, hD0⟩ := hv
  have hx := B.exec
  have hb := B.bytes
  have hr := B.returns
  have hts : ∀ w ∈ q_big, w.before _ s = true := fun w h => atoms_spec (ws := w_Run_hasEnded) B.pre w (List.mem_cons_of_mem _ h)
  have hown : s.vm.findClass "SlippedStreams$Run" = some m.cls := findClass_of_methodNamed B.named
  have hlocks := B.notSynchronized
  subst hsz
  have hD := hD0.self (sz := s.heap.size)
  generalize hAe : va_A (wX cI cZ ad z0) s.heap.size = A at hD ⊢
  have hA : ∀ q : Nat, s.heap.size ≤ q → A q := fun q h => by rw [← hAe]; exact Or.inr h
  have hS : va_S A s.heap s.heap [] := va_S.rf
  have hK := hKK.1
  have hl := lv_entry ([.ref (ad 35)]) (n := 1) (Nat.le_of_ble_eq_true rfl)
  rw [lg_entry_eq]
  generalize (lg_sl ([.ref (ad 35)]) ++ List.replicate (1 - (lg_sl ([.ref (ad 35)])).length) Slot.unset).toArray = ls at hl ⊢
  have hl : lv_has ls 1 [(0, .ref (ad 35))] := hl
  unfold x_Run_hasEnded_35 at h
  refine lv_aload_n hx hb d_Run_hasEnded_0 rfl (lv_at hl 0 rfl) ?_
  refine xg_35_at hx hb hts hin_PlainRun hown hK hP (hts _ k_294) (fun _ h9 => h9) d_Run_hasEnded_1 ?_
  refine lv_aload_n hx hb d_Run_hasEnded_4 rfl (lv_at hl 0 rfl) ?_
  refine xg_35_program hx hb hts hin_PlainRun hown hK hP (hts _ k_265) (fun _ h9 => h9) d_Run_hasEnded_5 ?_
  refine xg_1_size hx hb hts hin_Program hown hK hP (hts _ k_116) (fun _ h9 => h9) d_Run_hasEnded_8 ?_
  refine lv_icmp_lt (tgt := 18) hx hb d_Run_hasEnded_11 (by decide) (fun hc => ?_) (fun hc => ?_)
  · replace h := if_t hc h
    refine lv_iconst (v := 0) hx hb d_Run_hasEnded_18 (by decide) ?_
    exact q_zret hx hb hr hlocks h hP hD hS d_Run_hasEnded_19
  · replace h := if_f hc h
    refine lv_iconst (v := 1) hx hb d_Run_hasEnded_14 (by decide) ?_
    refine lv_goto (tgt := 19) hx hb d_Run_hasEnded_15 (by decide) ?_
    exact q_zret hx hb hr hlocks h hP hD hS d_Run_hasEnded_19
def x_Run_test_35 (z0 : ST) (x1 : Int32) : OR := gin x1 24 (gin (z0.2 1 x1.toNatClampNeg) 8 (gin x1 24 (gin (z0.2 2 x1.toNatClampNeg) 8 (gin x1 24 (if (z0.2 0 x1.toNatClampNeg) = 6 then (if (z0.2 23 (z0.2 2 x1.toNatClampNeg).toNatClampNeg) ≤ (z0.2 23 (z0.2 1 x1.toNatClampNeg).toNatClampNeg) then (gib 0 (some (0, z0))) else (gib 1 (some (1, z0)))) else (if (z0.2 23 (z0.2 1 x1.toNatClampNeg).toNatClampNeg) = (z0.2 23 (z0.2 2 x1.toNatClampNeg).toNatClampNeg) then (gib 0 (some (0, z0))) else (gib 1 (some (1, z0)))))))))
set_option maxRecDepth 100000 in
set_option maxHeartbeats 4000000 in
theorem c_x_Run_test_35 (l : Launch) (dC : Nat → ClassId) (dI : Nat → Nat → Nat) (cI cZ : ClassId) (ad : Nat → Nat) (z0 : ST) (x1 : Int32) (R : Int32 × ST) (h : x_Run_test_35 z0 x1 = some R) : qMi l y_Run_test w_Run_test 0 0 (KX dC dI cI cZ) (dC, dI) q_cl (wX cI cZ ad) [.ref (ad 35), .int x1] z0 R := by
  intro sz
  refine Met.ofW (cc := b_Run_test) (maxL := 4) (ret := (some .boolean)) (by decide) rfl ?_
  intro p e s m args below meth c s₁ B hml hv
  obtain ⟨rfl, hsz, hP, hKK, hD0⟩ := hv
  have hx := B.exec
  have hb := B.bytes
  have hr := B.returns
  have hts : ∀ w ∈ q_big, w.before _ s = true := fun w h => atoms_spec (ws := w_Run_test) B.pre w (List.mem_cons_of_mem _ h)
  have hown : s.vm.findClass "SlippedStreams$Run" = some m.cls := findClass_of_methodNamed B.named
  have hlocks := B.notSynchronized
  subst hsz
  have hD := hD0.self (sz := s.heap.size)
  generalize hAe : va_A (wX cI cZ ad z0) s.heap.size = A at hD ⊢
  have hA : ∀ q : Nat, s.heap.size ≤ q → A q := fun q h => by rw [← hAe]; exact Or.inr h
  have hS : va_S A s.heap s.heap [] := va_S.rf
  have hK := hKK.1
  have hl := lv_entry ([.ref (ad 35), .int x1]) (n := 4) (Nat.le_of_ble_eq_true rfl)
  rw [lg_entry_eq]
  generalize (lg_sl ([.ref (ad 35), .int x1]) ++ List.replicate (4 - (lg_sl ([.ref (ad 35), .int x1])).length) Slot.unset).toArray = ls at hl ⊢
  have hl : lv_has ls 4 [(0, .ref (ad 35)), (1, .int x1)] := hl
  unfold x_Run_test_35 at h
  refine lv_aload_n hx hb d_Run_test_0 rfl (lv_at hl 0 rfl) ?_
  refine xg_35_registers hx hb hts hin_PlainRun hown hK hP (hts _ k_274) (fun _ h9 => h9) d_Run_test_1 ?_
  refine lv_aload_n hx hb d_Run_test_4 rfl (lv_at hl 0 rfl) ?_
  refine xg_35_program hx hb hts hin_PlainRun hown hK hP (hts _ k_265) (fun _ h9 => h9) d_Run_test_5 ?_
  refine xg_1_as hx hb hts hin_Program hown hK hP (hts _ k_92) (fun _ h9 => h9) d_Run_test_8 ?_
  refine lv_iload_n hx hb d_Run_test_11 rfl (lv_at hl 1 rfl) ?_
  obtain ⟨hi, h⟩ := gin_e h
  refine xl_1 hx hb hK hP hi d_Run_test_12 ?_
  obtain ⟨hi, h⟩ := gin_e h
  refine xl_23 hx hb hK hP hi d_Run_test_13 ?_
  refine lv_istore_n (lv' := [(2, .int (z0.2 23 (z0.2 1 x1.toNatClampNeg).toNatClampNeg)), (0, .ref (ad 35)), (1, .int x1)]) hx hb d_Run_test_14 rfl hl (by decide) rfl (fun ls hl => ?_)
  refine lv_aload_n hx hb d_Run_test_15 rfl (lv_at hl 1 rfl) ?_
  refine xg_35_registers hx hb hts hin_PlainRun hown hK hP (hts _ k_274) (fun _ h9 => h9) d_Run_test_16 ?_
  refine lv_aload_n hx hb d_Run_test_19 rfl (lv_at hl 1 rfl) ?_
  refine xg_35_program hx hb hts hin_PlainRun hown hK hP (hts _ k_265) (fun _ h9 => h9) d_Run_test_20 ?_
  refine xg_1_bs hx hb hts hin_Program hown hK hP (hts _ k_94) (fun _ h9 => h9) d_Run_test_23 ?_
  refine lv_iload_n hx hb d_Run_test_26 rfl (lv_at hl 2 rfl) ?_
  obtain ⟨hi, h⟩ := gin_e h
  refine xl_2 hx hb hK hP hi d_Run_test_27 ?_
  obtain ⟨hi, h⟩ := gin_e h
  refine xl_23 hx hb hK hP hi d_Run_test_28 ?_
  refine lv_istore_n (lv' := [(3, .int (z0.2 23 (z0.2 2 x1.toNatClampNeg).toNatClampNeg)), (2, .int (z0.2 23 (z0.2 1 x1.toNatClampNeg).toNatClampNeg)), (0, .ref (ad 35)), (1, .int x1)]) hx hb d_Run_test_29 rfl hl (by decide) rfl (fun ls hl => ?_)
  refine lv_aload_n hx hb d_Run_test_30 rfl (lv_at hl 2 rfl) ?_
  refine xg_35_program hx hb hts hin_PlainRun hown hK hP (hts _ k_265) (fun _ h9 => h9) d_Run_test_31 ?_
  refine xg_1_kinds hx hb hts hin_Program hown hK hP (hts _ k_87) (fun _ h9 => h9) d_Run_test_34 ?_
  refine lv_iload_n hx hb d_Run_test_37 rfl (lv_at hl 3 rfl) ?_
  obtain ⟨hi, h⟩ := gin_e h
  refine xl_0 hx hb hK hP hi d_Run_test_38 ?_
  refine lv_bipush (v := 6) hx hb d_Run_test_39 (by decide) ?_
  refine lv_icmp_ne (tgt := 57) hx hb d_Run_test_41 (by decide) (fun hc => ?_) (fun hc => ?_)
  · replace h := if_f hc h
    refine lv_iload_n hx hb d_Run_test_57 rfl (lv_at hl 1 rfl) ?_
    refine lv_iload_n hx hb d_Run_test_58 rfl (lv_at hl 0 rfl) ?_
    refine lv_icmp_eq (tgt := 66) hx hb d_Run_test_59 (by decide) (fun hc => ?_) (fun hc => ?_)
    · replace h := if_t hc h
      refine lv_iconst (v := 0) hx hb d_Run_test_66 (by decide) ?_
      exact q_zret hx hb hr hlocks h hP hD hS d_Run_test_67
    · replace h := if_f hc h
      refine lv_iconst (v := 1) hx hb d_Run_test_62 (by decide) ?_
      refine lv_goto (tgt := 67) hx hb d_Run_test_63 (by decide) ?_
      exact q_zret hx hb hr hlocks h hP hD hS d_Run_test_67
  · replace h := if_t hc h
    refine lv_iload_n hx hb d_Run_test_44 rfl (lv_at hl 1 rfl) ?_
    refine lv_iload_n hx hb d_Run_test_45 rfl (lv_at hl 0 rfl) ?_
    refine lv_icmp_ge (tgt := 53) hx hb d_Run_test_46 (by decide) (fun hc => ?_) (fun hc => ?_)
    · replace h := if_t hc h
      refine lv_iconst (v := 0) hx hb d_Run_test_53 (by decide) ?_
      refine lv_goto (tgt := 67) hx hb d_Run_test_54 (by decide) ?_
      exact q_zret hx hb hr hlocks h hP hD hS d_Run_test_67
    · replace h := if_f hc h
      refine lv_iconst (v := 1) hx hb d_Run_test_49 (by decide) ?_
      refine lv_goto (tgt := 67) hx hb d_Run_test_50 (by decide) ?_
      exact q_zret hx hb hr hlocks h hP hD hS d_Run_test_67
def x_Run_behind_35 (z0 : ST) (x1 x2 : Int32) : OR := if x2 = 0 then (some (x1 + 1, z0)) else (gin x1 24 (some (z0.2 3 x1.toNatClampNeg, z0)))
set_option maxRecDepth 100000 in
set_option maxHeartbeats 4000000 in
theorem c_x_Run_behind_35 (l : Launch) (dC : Nat → ClassId) (dI : Nat → Nat → Nat) (cI cZ : ClassId) (ad : Nat → Nat) (z0 : ST) (x1 x2 : Int32) (R : Int32 × ST) (h : x_Run_behind_35 z0 x1 x2 = some R) : qMi l y_Run_behind w_Run_behind 0 0 (KX dC dI cI cZ) (dC, dI) q_cl (wX cI cZ ad) [.ref (ad 35), .int x1, .int x2] z0 R := by
  intro sz
  refine Met.ofW (cc := b_Run_behind) (maxL := 3) (ret := (some .int)) (by decide) rfl ?_
  intro p e s m args below meth c s₁ B hml hv
  obtain ⟨rfl, hsz, hP, hKK, hD0⟩ := hv
  have hx := B.exec
  have hb := B.bytes
  have hr := B.returns
  have hts : ∀ w ∈ q_big, w.before _ s = true := fun w h => atoms_spec (ws := w_Run_behind) B.pre w (List.mem_cons_of_mem _ h)
  have hown : s.vm.findClass "SlippedStreams$Run" = some m.cls := findClass_of_methodNamed B.named
  have hlocks := B.notSynchronized
  subst hsz
  have hD := hD0.self (sz := s.heap.size)
  generalize hAe : va_A (wX cI cZ ad z0) s.heap.size = A at hD ⊢
  have hA : ∀ q : Nat, s.heap.size ≤ q → A q := fun q h => by rw [← hAe]; exact Or.inr h
  have hS : va_S A s.heap s.heap [] := va_S.rf
  have hK := hKK.1
  have hl := lv_entry ([.ref (ad 35), .int x1, .int x2]) (n := 3) (Nat.le_of_ble_eq_true rfl)
  rw [lg_entry_eq]
  generalize (lg_sl ([.ref (ad 35), .int x1, .int x2]) ++ List.replicate (3 - (lg_sl ([.ref (ad 35), .int x1, .int x2])).length) Slot.unset).toArray = ls at hl ⊢
  have hl : lv_has ls 3 [(0, .ref (ad 35)), (1, .int x1), (2, .int x2)] := hl
  unfold x_Run_behind_35 at h
  refine lv_iload_n hx hb d_Run_behind_0 rfl (lv_at hl 2 rfl) ?_
  refine lv_if_eq (tgt := 16) hx hb d_Run_behind_1 (by decide) (fun hc => ?_) (fun hc => ?_)
  · replace h := if_t hc h
    refine lv_iload_n hx hb d_Run_behind_16 rfl (lv_at hl 1 rfl) ?_
    refine lv_iconst (v := 1) hx hb d_Run_behind_17 (by decide) ?_
    refine lv_iadd hx hb d_Run_behind_18 ?_
    exact q_iret hx hb hr hlocks h hP hD hS d_Run_behind_19
  · replace h := if_f hc h
    refine lv_aload_n hx hb d_Run_behind_4 rfl (lv_at hl 0 rfl) ?_
    refine xg_35_program hx hb hts hin_PlainRun hown hK hP (hts _ k_265) (fun _ h9 => h9) d_Run_behind_5 ?_
    refine xg_1_cs hx hb hts hin_Program hown hK hP (hts _ k_96) (fun _ h9 => h9) d_Run_behind_8 ?_
    refine lv_iload_n hx hb d_Run_behind_11 rfl (lv_at hl 1 rfl) ?_
    obtain ⟨hi, h⟩ := gin_e h
    refine xl_3 hx hb hK hP hi d_Run_behind_12 ?_
    refine lv_goto (tgt := 19) hx hb d_Run_behind_13 (by decide) ?_
    exact q_iret hx hb hr hlocks h hP hD hS d_Run_behind_19
def x_PlainRun_step_35_42 (z0 : ST) (y1 y2 : Int32) : OR := bnd (stI z0 21 y2) (fun z1 => obn (x_PlainRun_perform_35 z1 y1) (fun r2 z2 => gib 1 (some (1, z2))))
def x_PlainRun_step_35 (z0 : ST) : OR := obn (x_Run_hasEnded_35 z0) (fun r3 z3 => if r3 = 0 then (obn (x_Program_isBranch_1 z3 (z3.1 21)) (fun r4 z4 => if r4 = 0 then (x_PlainRun_step_35_42 z4 (z3.1 21) ((z3.1 21) + 1)) else (obn (x_Run_test_35 z4 (z3.1 21)) (fun r5 z5 => obn (x_Run_behind_35 z5 (z3.1 21) r5) (fun r6 z6 => x_PlainRun_step_35_42 z6 (z3.1 21) r6))))) else (gib 0 (some (0, z3))))
set_option maxRecDepth 100000 in
set_option maxHeartbeats 4000000 in
theorem c_x_PlainRun_step_35 (l : Launch) (dC : Nat → ClassId) (dI : Nat → Nat → Nat) (cI cZ : ClassId) (ad : Nat → Nat) (z0 : ST) (R : Int32 × ST) (h : x_PlainRun_step_35 z0 = some R) : qMi l y_PlainRun_step w_PlainRun_step 3 66 (KX dC dI cI cZ) (dC, dI) q_cl (wX cI cZ ad) [.ref (ad 35)] z0 R := by
  intro sz
  refine Met.ofW (cc := b_PlainRun_step) (maxL := 2) (ret := (some .boolean)) (by decide) rfl ?_
  intro p e s m args below meth c s₁ B hml hv
  obtain ⟨rfl, hsz, hP, hKK, hD0⟩ := hv
  have hx := B.exec
  have hb := B.bytes
  have hr := B.returns
  have hts : ∀ w ∈ q_big, w.before _ s = true := fun w h => atoms_spec (ws := w_PlainRun_step) B.pre w (List.mem_cons_of_mem _ h)
  have hown : s.vm.findClass "SlippedStreams$PlainRun" = some m.cls := findClass_of_methodNamed B.named
  have hlocks := B.notSynchronized
  subst hsz
  have hD := hD0.self (sz := s.heap.size)
  generalize hAe : va_A (wX cI cZ ad z0) s.heap.size = A at hD ⊢
  have hA : ∀ q : Nat, s.heap.size ≤ q → A q := fun q h => by rw [← hAe]; exact Or.inr h
  have hS : va_S A s.heap s.heap [] := va_S.rf
  have hK := hKK.1
  have hl := lv_entry ([.ref (ad 35)]) (n := 2) (Nat.le_of_ble_eq_true rfl)
  rw [lg_entry_eq]
  generalize (lg_sl ([.ref (ad 35)]) ++ List.replicate (2 - (lg_sl ([.ref (ad 35)])).length) Slot.unset).toArray = ls at hl ⊢
  have hl : lv_has ls 2 [(0, .ref (ad 35))] := hl
  have jp_42 : ∀ (z0 : ST) (y1 y2 : Int32) (H : Heap) (locs : List Loc) (ls : Array Slot), x_PlainRun_step_35_42 z0 y1 y2 = some R → va_P (dC, dI) q_cl (wX cI cZ ad z0) H → va_D A (wX cI cZ ad z0) → va_S A s.heap H locs → lv_has ls 2 [(0, .ref (ad 35)), (1, .int y1)] → qWi p l e w_PlainRun_step 3 66 s m [.ref (ad 35)] below meth c (dC, dI) q_cl (wX cI cZ ad) A R H locs (F0 m 42 ls [.int y2, .ref (ad 35)]) := by
    intro z0 y1 y2 H locs ls h hP hD hS hl
    unfold x_PlainRun_step_35_42 at h
    obtain ⟨z1, e1, h⟩ := bnd_e h
    refine xp_35_at hx hb hts hin_PlainRun hown hK hP hD hS (hts _ k_288) (fun x9 h9 => u_same (hts _ k_289) x9 h9) d_PlainRun_step_42 e1 (fun H locs hP hD hS => ?_)
    refine lv_aload_n hx hb d_PlainRun_step_45 rfl (lv_at hl 0 rfl) ?_
    refine lv_iload_n hx hb d_PlainRun_step_46 rfl (lv_at hl 1 rfl) ?_
    obtain ⟨r2, z2, hc2, h⟩ := obn_e h
    refine q_gov (va_runV (As := [.int y1]) (rest := []) ⟨hx, hb, hml, hown, hts⟩ (c_x_PlainRun_perform_35 l dC dI cI cZ ad z1 y1 _ hc2 _) (cwV 1 hts (q_goodL _ (q_l4 k_672 k_674 k_21 k_63) k_675) rfl rfl rfl (by decide +kernel) ⟨Nat.le_of_ble_eq_true rfl, Nat.le_of_ble_eq_true rfl⟩) (q_preV qok hKK hP hD (va_recv (ci := 8) (q0 := 35) hK hP rfl rfl)) rfl rfl hl.1 rfl (lv_room (Nat.le_of_ble_eq_true rfl)) d_PlainRun_step_47 ⟨Nat.le_refl _, Nat.le_refl _⟩) hD hS hA (fun H locs hP hD hS => ?_)
    refine lv_iconst (v := 1) hx hb d_PlainRun_step_50 (by decide) ?_
    exact q_zret hx hb hr hlocks h hP hD hS d_PlainRun_step_51
  unfold x_PlainRun_step_35 at h
  refine lv_aload_n hx hb d_PlainRun_step_0 rfl (lv_at hl 0 rfl) ?_
  obtain ⟨r3, z3, hc3, h⟩ := obn_e h
  refine q_goi (va_runU (As := []) (rest := []) ⟨hx, hb, hml, hown, hts⟩ (c_x_Run_hasEnded_35 l dC dI cI cZ ad z0 _ hc3 _) (va_cwU 0 hts (q_goodL _ (q_l5 k_662 k_663 k_664 k_539 k_58) k_540) rfl rfl rfl rfl (by decide +kernel) ⟨Nat.le_of_ble_eq_true rfl, Nat.le_of_ble_eq_true rfl⟩) (q_preV qok hKK hP hD (va_recv (ci := 8) (q0 := 35) hK hP rfl rfl)) rfl rfl hl.1 rfl (lv_room (Nat.le_of_ble_eq_true rfl)) d_PlainRun_step_1 ⟨Nat.le_refl _, Nat.le_refl _⟩) hD hS hA (fun H locs hP hD hS => ?_)
  refine lv_if_eq (tgt := 9) hx hb d_PlainRun_step_4 (by decide) (fun hc => ?_) (fun hc => ?_)
  · replace h := if_t hc h
    refine lv_aload_n hx hb d_PlainRun_step_9 rfl (lv_at hl 0 rfl) ?_
    refine xg_35_at hx hb hts hin_PlainRun hown hK hP (hts _ k_288) (fun x9 h9 => u_same (hts _ k_289) x9 h9) d_PlainRun_step_10 ?_
    refine lv_istore_n (lv' := [(1, .int (z3.1 21)), (0, .ref (ad 35))]) hx hb d_PlainRun_step_13 rfl hl (by decide) rfl (fun ls hl => ?_)
    refine lv_aload_n hx hb d_PlainRun_step_14 rfl (lv_at hl 1 rfl) ?_
    refine lv_aload_n hx hb d_PlainRun_step_15 rfl (lv_at hl 1 rfl) ?_
    refine xg_35_program hx hb hts hin_PlainRun hown hK hP (hts _ k_270) (fun x9 h9 => u_same (hts _ k_271) x9 h9) d_PlainRun_step_16 ?_
    refine lv_iload_n hx hb d_PlainRun_step_19 rfl (lv_at hl 0 rfl) ?_
    obtain ⟨r4, z4, hc4, h⟩ := obn_e h
    refine q_goi (va_runV (As := [.int (z3.1 21)]) (rest := [.ref (ad 35)]) ⟨hx, hb, hml, hown, hts⟩ (c_x_Program_isBranch_1 l dC dI cI cZ ad z3 (z3.1 21) _ hc4 _) (cwV 1 hts (q_goodL _ (q_l4 k_665 k_418 k_419 k_54) k_420) rfl rfl rfl (by decide +kernel) ⟨Nat.le_of_ble_eq_true rfl, Nat.le_of_ble_eq_true rfl⟩) (q_preV qok hKK hP hD (va_recv (ci := 1) (q0 := 1) hK hP rfl rfl)) rfl rfl hl.1 rfl (lv_room (Nat.le_of_ble_eq_true rfl)) d_PlainRun_step_20 ⟨Nat.le_refl _, Nat.le_refl _⟩) hD hS hA (fun H locs hP hD hS => ?_)
    refine lv_if_eq (tgt := 39) hx hb d_PlainRun_step_23 (by decide) (fun hc => ?_) (fun hc => ?_)
    · replace h := if_t hc h
      refine lv_iload_n hx hb d_PlainRun_step_39 rfl (lv_at hl 0 rfl) ?_
      refine lv_iconst (v := 1) hx hb d_PlainRun_step_40 (by decide) ?_
      refine lv_iadd hx hb d_PlainRun_step_41 ?_
      exact jp_42 z4 (z3.1 21) ((z3.1 21) + 1) _ _ _ h hP hD hS (lv_sub hl [1, 0] rfl)
    · replace h := if_f hc h
      refine lv_aload_n hx hb d_PlainRun_step_26 rfl (lv_at hl 1 rfl) ?_
      refine lv_iload_n hx hb d_PlainRun_step_27 rfl (lv_at hl 0 rfl) ?_
      refine lv_aload_n hx hb d_PlainRun_step_28 rfl (lv_at hl 1 rfl) ?_
      refine lv_iload_n hx hb d_PlainRun_step_29 rfl (lv_at hl 0 rfl) ?_
      obtain ⟨r5, z5, hc5, h⟩ := obn_e h
      refine q_goi (va_runU (As := [.int (z3.1 21)]) (rest := [.int (z3.1 21), .ref (ad 35), .ref (ad 35)]) ⟨hx, hb, hml, hown, hts⟩ (c_x_Run_test_35 l dC dI cI cZ ad z4 (z3.1 21) _ hc5 _) (va_cwU 1 hts (q_goodL _ (q_l5 k_666 k_667 k_668 k_610 k_58) k_611) rfl rfl rfl rfl (by decide +kernel) ⟨Nat.le_of_ble_eq_true rfl, Nat.le_of_ble_eq_true rfl⟩) (q_preV qok hKK hP hD (va_recv (ci := 8) (q0 := 35) hK hP rfl rfl)) rfl rfl hl.1 rfl (lv_room (Nat.le_of_ble_eq_true rfl)) d_PlainRun_step_30 ⟨Nat.le_refl _, Nat.le_refl _⟩) hD hS hA (fun H locs hP hD hS => ?_)
      obtain ⟨r6, z6, hc6, h⟩ := obn_e h
      refine q_goi (va_runU (As := [.int (z3.1 21), .int r5]) (rest := [.ref (ad 35)]) ⟨hx, hb, hml, hown, hts⟩ (c_x_Run_behind_35 l dC dI cI cZ ad z5 (z3.1 21) r5 _ hc6 _) (va_cwU 2 hts (q_goodL _ (q_l5 k_669 k_670 k_671 k_621 k_58) k_622) rfl rfl rfl rfl (by decide +kernel) ⟨Nat.le_of_ble_eq_true rfl, Nat.le_of_ble_eq_true rfl⟩) (q_preV qok hKK hP hD (va_recv (ci := 8) (q0 := 35) hK hP rfl rfl)) rfl rfl hl.1 rfl (lv_room (Nat.le_of_ble_eq_true rfl)) d_PlainRun_step_33 ⟨Nat.le_refl _, Nat.le_refl _⟩) hD hS hA (fun H locs hP hD hS => ?_)
      refine lv_goto (tgt := 42) hx hb d_PlainRun_step_36 (by decide) ?_
      exact jp_42 z6 (z3.1 21) r6 _ _ _ h hP hD hS (lv_sub hl [1, 0] rfl)
  · replace h := if_f hc h
    refine lv_iconst (v := 0) hx hb d_PlainRun_step_7 (by decide) ?_
    exact q_zret hx hb hr hlocks h hP hD hS d_PlainRun_step_8
def x_Run_advance_35_g0 (k : Nat → ST → Int32 → Int32 → OR) (z0 : ST) (y1 y2 : Int32) : OR := k 1 z0 y1 0
def x_Run_advance_35_g2 (k : Nat → ST → Int32 → Int32 → OR) (z0 : ST) (y1 y2 : Int32) : OR := if y1 ≤ y2 then (some (y2, z0)) else (obn (x_PlainRun_step_35 z0) (fun r1 z1 => if r1 = 0 then (some (y2, z1)) else (k 1 z1 y1 (y2 + 1))))
def x_Run_advance_35_g (k : Nat → ST → Int32 → Int32 → OR) (n : Nat) : ST → Int32 → Int32 → OR := match n with
  | 0 => x_Run_advance_35_g0 k
  | 1 => x_Run_advance_35_g2 k
  | _ => fun _ _ _ => none
def x_Run_advance_35_f : Nat → Nat → ST → Int32 → Int32 → OR
  | 0 => fun _ _ _ _ => none
  | n + 1 => x_Run_advance_35_g (x_Run_advance_35_f n)
def x_Run_advance_35 (z0 : ST) (x1 : Int32) : OR := x_Run_advance_35_f 4000 0 z0 x1 0
set_option maxRecDepth 100000 in
set_option maxHeartbeats 4000000 in
theorem c_x_Run_advance_35 (l : Launch) (dC : Nat → ClassId) (dI : Nat → Nat → Nat) (cI cZ : ClassId) (ad : Nat → Nat) (z0 : ST) (x1 : Int32) (R : Int32 × ST) (h : x_Run_advance_35 z0 x1 = some R) : qMi l y_Run_advance w_Run_advance 4 87 (KX dC dI cI cZ) (dC, dI) q_cl (wX cI cZ ad) [.ref (ad 35), .int x1] z0 R := by
  intro sz
  refine Met.ofW (cc := b_Run_advance) (maxL := 3) (ret := (some .int)) (by decide) rfl ?_
  intro p e s m args below meth c s₁ B hml hv
  obtain ⟨rfl, hsz, hP, hKK, hD0⟩ := hv
  have hx := B.exec
  have hb := B.bytes
  have hr := B.returns
  have hts : ∀ w ∈ q_big, w.before _ s = true := fun w h => atoms_spec (ws := w_Run_advance) B.pre w (List.mem_cons_of_mem _ h)
  have hown : s.vm.findClass "SlippedStreams$Run" = some m.cls := findClass_of_methodNamed B.named
  have hlocks := B.notSynchronized
  subst hsz
  have hD := hD0.self (sz := s.heap.size)
  generalize hAe : va_A (wX cI cZ ad z0) s.heap.size = A at hD ⊢
  have hA : ∀ q : Nat, s.heap.size ≤ q → A q := fun q h => by rw [← hAe]; exact Or.inr h
  have hS : va_S A s.heap s.heap [] := va_S.rf
  have hK := hKK.1
  have hl := lv_entry ([.ref (ad 35), .int x1]) (n := 3) (Nat.le_of_ble_eq_true rfl)
  rw [lg_entry_eq]
  generalize (lg_sl ([.ref (ad 35), .int x1]) ++ List.replicate (3 - (lg_sl ([.ref (ad 35), .int x1])).length) Slot.unset).toArray = ls at hl ⊢
  have hl : lv_has ls 3 [(0, .ref (ad 35)), (1, .int x1)] := hl
  have key : ∀ n : Nat, (∀ (z0 : ST) (y1 y2 : Int32) (H : Heap) (locs : List Loc) (ls : Array Slot), x_Run_advance_35_f n 0 z0 y1 y2 = some R → va_P (dC, dI) q_cl (wX cI cZ ad z0) H → va_D A (wX cI cZ ad z0) → va_S A s.heap H locs → lv_has ls 3 [(0, .ref (ad 35)), (1, .int y1)] → qWi p l e w_Run_advance 4 87 s m [.ref (ad 35), .int x1] below meth c (dC, dI) q_cl (wX cI cZ ad) A R H locs (F0 m 0 ls [])) ∧ (∀ (z0 : ST) (y1 y2 : Int32) (H : Heap) (locs : List Loc) (ls : Array Slot), x_Run_advance_35_f n 1 z0 y1 y2 = some R → va_P (dC, dI) q_cl (wX cI cZ ad z0) H → va_D A (wX cI cZ ad z0) → va_S A s.heap H locs → lv_has ls 3 [(0, .ref (ad 35)), (1, .int y1), (2, .int y2)] → qWi p l e w_Run_advance 4 87 s m [.ref (ad 35), .int x1] below meth c (dC, dI) q_cl (wX cI cZ ad) A R H locs (F0 m 2 ls [])) := by
    intro n
    induction n with
    | zero => exact ⟨fun z0 y1 y2 H locs ls h hP hD hS hl => (by cases h), fun z0 y1 y2 H locs ls h hP hD hS hl => (by cases h)⟩
    | succ n ih =>
      obtain ⟨jp_0, jp_2⟩ := ih
      refine ⟨?_, ?_⟩
      · intro z0 y1 y2 H locs ls h hP hD hS hl
        replace h : x_Run_advance_35_g0 (x_Run_advance_35_f n) z0 y1 y2 = some R := h
        unfold x_Run_advance_35_g0 at h
        refine lv_iconst (v := 0) hx hb d_Run_advance_0 (by decide) ?_
        refine lv_istore_n (lv' := [(2, .int 0), (0, .ref (ad 35)), (1, .int y1)]) hx hb d_Run_advance_1 rfl hl (by decide) rfl (fun ls hl => ?_)
        exact jp_2 z0 y1 0 _ _ _ h hP hD hS (lv_sub hl [1, 2, 0] rfl)
      · intro z0 y1 y2 H locs ls h hP hD hS hl
        replace h : x_Run_advance_35_g2 (x_Run_advance_35_f n) z0 y1 y2 = some R := h
        unfold x_Run_advance_35_g2 at h
        refine lv_iload_n hx hb d_Run_advance_2 rfl (lv_at hl 2 rfl) ?_
        refine lv_iload_n hx hb d_Run_advance_3 rfl (lv_at hl 1 rfl) ?_
        refine lv_icmp_ge (tgt := 20) hx hb d_Run_advance_4 (by decide) (fun hc => ?_) (fun hc => ?_)
        · replace h := if_t hc h
          refine lv_iload_n hx hb d_Run_advance_20 rfl (lv_at hl 2 rfl) ?_
          exact q_iret hx hb hr hlocks h hP hD hS d_Run_advance_21
        · replace h := if_f hc h
          refine lv_aload_n hx hb d_Run_advance_7 rfl (lv_at hl 0 rfl) ?_
          obtain ⟨r1, z1, hc1, h⟩ := obn_e h
          refine q_goi (va_runU (As := []) (rest := []) ⟨hx, hb, hml, hown, hts⟩ (c_x_PlainRun_step_35 l dC dI cI cZ ad z0 _ hc1 _) (va_cwA 0 hts (q_goodL _ (q_l5 k_529 k_531 k_659 k_660 k_63) k_661) rfl rfl rfl hKK.2.2 (by decide +kernel) ⟨Nat.le_of_ble_eq_true rfl, Nat.le_of_ble_eq_true rfl⟩) (q_preV qok hKK hP hD (va_recv (ci := 8) (q0 := 35) hK hP rfl rfl)) rfl rfl hl.1 rfl (lv_room (Nat.le_of_ble_eq_true rfl)) d_Run_advance_8 ⟨Nat.le_refl _, Nat.le_refl _⟩) hD hS hA (fun H locs hP hD hS => ?_)
          refine lv_if_eq (tgt := 20) hx hb d_Run_advance_11 (by decide) (fun hc => ?_) (fun hc => ?_)
          · replace h := if_t hc h
            refine lv_iload_n hx hb d_Run_advance_20 rfl (lv_at hl 2 rfl) ?_
            exact q_iret hx hb hr hlocks h hP hD hS d_Run_advance_21
          · replace h := if_f hc h
            refine lv_iinc (k := 2) (v := y2 + 1) (lv' := [(2, .int (y2 + 1)), (0, .ref (ad 35)), (1, .int y1)]) hx hb d_Run_advance_14 hl rfl rfl (by decide) rfl (fun ls hl => ?_)
            refine lv_goto (tgt := 2) hx hb d_Run_advance_17 (by decide) ?_
            exact jp_2 z1 y1 (y2 + 1) _ _ _ h hP hD hS (lv_sub hl [1, 2, 0] rfl)
  exact (key 4000).1 z0 x1 0 _ _ _ h hP hD hS (lv_sub hl [0, 1] rfl)
