def x_plain (z0 : ST) (x1 : Int32) : OR := obn (x_isMoveCount z0 x1) (fun r1 z1 => if r1 = 0 then (some ((-1), z1)) else (obn (x_Run_advance_35 z1 x1) (fun r2 z2 => some (r2, z2))))
set_option maxRecDepth 100000 in
set_option maxHeartbeats 4000000 in
theorem c_x_plain (l : Launch) (dC : Nat → ClassId) (dI : Nat → Nat → Nat) (cI cZ : ClassId) (ad : Nat → Nat) (z0 : ST) (x1 : Int32) (R : Int32 × ST) (h : x_plain z0 x1 = some R) : qMi l y_SlippedStreams_plain w_SlippedStreams_plain 5 109 (KX dC dI cI cZ) (dC, dI) q_cl (wX cI cZ ad) [.ref (ad 0), .int x1] z0 R := by
  intro sz
  refine Met.ofW (cc := b_SlippedStreams_plain) (maxL := 2) (ret := (some .int)) (by decide) rfl ?_
  intro p e s m args below meth c s₁ B hml hv
  obtain ⟨rfl, hsz, hP, hKK, hD0⟩ := hv
  have hx := B.exec
  have hb := B.bytes
  have hr := B.returns
  have hts : ∀ w ∈ q_big, w.before _ s = true := fun w h => atoms_spec (ws := w_SlippedStreams_plain) B.pre w (List.mem_cons_of_mem _ h)
  have hown : s.vm.findClass "SlippedStreams" = some m.cls := findClass_of_methodNamed B.named
  have hlocks := B.notSynchronized
  subst hsz
  have hD := hD0.self (sz := s.heap.size)
  generalize hAe : va_A (wX cI cZ ad z0) s.heap.size = A at hD ⊢
  have hA : ∀ q : Nat, s.heap.size ≤ q → A q := fun q h => by rw [← hAe]; exact Or.inr h
  have hS : va_S A s.heap s.heap [] := va_S.rf
  have hK := hKK.1
  have hl := lv_entry ([.ref (ad 0), .int x1]) (n := 2) (Nat.le_of_ble_eq_true rfl)
  rw [lg_entry_eq]
  generalize (lg_sl ([.ref (ad 0), .int x1]) ++ List.replicate (2 - (lg_sl ([.ref (ad 0), .int x1])).length) Slot.unset).toArray = ls at hl ⊢
  have hl : lv_has ls 2 [(0, .ref (ad 0)), (1, .int x1)] := hl
  unfold x_plain at h
  refine lv_iload_n hx hb d_SlippedStreams_plain_0 rfl (lv_at hl 1 rfl) ?_
  obtain ⟨r1, z1, hc1, h⟩ := obn_e h
  refine q_goi (va_runS (As := [.int x1]) (rest := []) ⟨hx, hb, hml, hown, hts⟩ (c_x_isMoveCount l dC dI cI cZ ad z0 x1 _ hc1 _) (va_cwS 1 hts (q_goodL _ (q_l3 k_520 k_521 k_53) k_522) rfl rfl rfl (by decide +kernel) ⟨Nat.le_of_ble_eq_true rfl, Nat.le_of_ble_eq_true rfl⟩) (q_preS qok hKK hP hD) rfl rfl hl.1 rfl (lv_room (Nat.le_of_ble_eq_true rfl)) d_SlippedStreams_plain_1 ⟨Nat.le_refl _, Nat.le_refl _⟩) hD hS hA (fun H locs hP hD hS => ?_)
  refine lv_if_eq (tgt := 18) hx hb d_SlippedStreams_plain_4 (by decide) (fun hc => ?_) (fun hc => ?_)
  · replace h := if_t hc h
    refine lv_iconst (v := (-1)) hx hb d_SlippedStreams_plain_18 (by decide) ?_
    exact q_iret hx hb hr hlocks h hP hD hS d_SlippedStreams_plain_19
  · replace h := if_f hc h
    refine lv_aload_n hx hb d_SlippedStreams_plain_7 rfl (lv_at hl 0 rfl) ?_
    refine xg_0_plainRun hx hb hts hin_SlippedStreams hown hK hP (hts _ k_366) (fun _ h9 => h9) d_SlippedStreams_plain_8 ?_
    refine lv_iload_n hx hb d_SlippedStreams_plain_11 rfl (lv_at hl 1 rfl) ?_
    obtain ⟨r2, z2, hc2, h⟩ := obn_e h
    refine q_goi (va_runU (As := [.int x1]) (rest := []) ⟨hx, hb, hml, hown, hts⟩ (c_x_Run_advance_35 l dC dI cI cZ ad z1 x1 _ hc2 _) (va_cwU 1 hts (q_goodL _ (q_l5 k_792 k_793 k_794 k_527 k_58) k_528) rfl rfl rfl rfl (by decide +kernel) ⟨Nat.le_of_ble_eq_true rfl, Nat.le_of_ble_eq_true rfl⟩) (q_preV qok hKK hP hD (va_recv (ci := 8) (q0 := 35) hK hP rfl rfl)) rfl rfl hl.1 rfl (lv_room (Nat.le_of_ble_eq_true rfl)) d_SlippedStreams_plain_12 ⟨Nat.le_refl _, Nat.le_refl _⟩) hD hS hA (fun H locs hP hD hS => ?_)
    refine lv_goto (tgt := 19) hx hb d_SlippedStreams_plain_15 (by decide) ?_
    exact q_iret hx hb hr hlocks h hP hD hS d_SlippedStreams_plain_19
def x_outputs (z0 : ST) (x1 : Int32) : OR := if x1 = 0 then (some (z0.1 20, z0)) else (some (z0.1 22, z0))
set_option maxRecDepth 100000 in
set_option maxHeartbeats 4000000 in
theorem c_x_outputs (l : Launch) (dC : Nat → ClassId) (dI : Nat → Nat → Nat) (cI cZ : ClassId) (ad : Nat → Nat) (z0 : ST) (x1 : Int32) (R : Int32 × ST) (h : x_outputs z0 x1 = some R) : qMi l y_SlippedStreams_outputs w_SlippedStreams_outputs 0 0 (KX dC dI cI cZ) (dC, dI) q_cl (wX cI cZ ad) [.ref (ad 0), .int x1] z0 R := by
  intro sz
  refine Met.ofW (cc := b_SlippedStreams_outputs) (maxL := 2) (ret := (some .int)) (by decide) rfl ?_
  intro p e s m args below meth c s₁ B hml hv
  obtain ⟨rfl, hsz, hP, hKK, hD0⟩ := hv
  have hx := B.exec
  have hb := B.bytes
  have hr := B.returns
  have hts : ∀ w ∈ q_big, w.before _ s = true := fun w h => atoms_spec (ws := w_SlippedStreams_outputs) B.pre w (List.mem_cons_of_mem _ h)
  have hown : s.vm.findClass "SlippedStreams" = some m.cls := findClass_of_methodNamed B.named
  have hlocks := B.notSynchronized
  subst hsz
  have hD := hD0.self (sz := s.heap.size)
  generalize hAe : va_A (wX cI cZ ad z0) s.heap.size = A at hD ⊢
  have hA : ∀ q : Nat, s.heap.size ≤ q → A q := fun q h => by rw [← hAe]; exact Or.inr h
  have hS : va_S A s.heap s.heap [] := va_S.rf
  have hK := hKK.1
  have hl := lv_entry ([.ref (ad 0), .int x1]) (n := 2) (Nat.le_of_ble_eq_true rfl)
  rw [lg_entry_eq]
  generalize (lg_sl ([.ref (ad 0), .int x1]) ++ List.replicate (2 - (lg_sl ([.ref (ad 0), .int x1])).length) Slot.unset).toArray = ls at hl ⊢
  have hl : lv_has ls 2 [(0, .ref (ad 0)), (1, .int x1)] := hl
  unfold x_outputs at h
  refine lv_iload_n hx hb d_SlippedStreams_outputs_0 rfl (lv_at hl 1 rfl) ?_
  refine lv_if_eq (tgt := 17) hx hb d_SlippedStreams_outputs_1 (by decide) (fun hc => ?_) (fun hc => ?_)
  · replace h := if_t hc h
    refine lv_aload_n hx hb d_SlippedStreams_outputs_17 rfl (lv_at hl 0 rfl) ?_
    refine xg_0_valueStream hx hb hts hin_SlippedStreams hown hK hP (hts _ k_365) (fun _ h9 => h9) d_SlippedStreams_outputs_18 ?_
    refine xg_31_written hx hb hts hin_ValueStream hown hK hP (hts _ k_331) (fun _ h9 => h9) d_SlippedStreams_outputs_21 ?_
    refine xg_33_count hx hb hts hin_Written hown hK hP (hts _ k_324) (fun _ h9 => h9) d_SlippedStreams_outputs_24 ?_
    exact q_iret hx hb hr hlocks h hP hD hS d_SlippedStreams_outputs_27
  · replace h := if_f hc h
    refine lv_aload_n hx hb d_SlippedStreams_outputs_4 rfl (lv_at hl 0 rfl) ?_
    refine xg_0_plainRun hx hb hts hin_SlippedStreams hown hK hP (hts _ k_366) (fun _ h9 => h9) d_SlippedStreams_outputs_5 ?_
    refine xg_35_written hx hb hts hin_PlainRun hown hK hP (hts _ k_352) (fun _ h9 => h9) d_SlippedStreams_outputs_8 ?_
    refine xg_38_count hx hb hts hin_Written hown hK hP (hts _ k_324) (fun _ h9 => h9) d_SlippedStreams_outputs_11 ?_
    refine lv_goto (tgt := 27) hx hb d_SlippedStreams_outputs_14 (by decide) ?_
    exact q_iret hx hb hr hlocks h hP hD hS d_SlippedStreams_outputs_27
def x_Written_thing_33 (z0 : ST) (x1 : Int32) : OR := if x1 < 0 then (some (0, z0)) else (if (z0.1 20) ≤ x1 then (some (0, z0)) else (if 64 ≤ x1 then (some (0, z0)) else (gin x1 64 (some (z0.2 22 x1.toNatClampNeg, z0)))))
set_option maxRecDepth 100000 in
set_option maxHeartbeats 4000000 in
theorem c_x_Written_thing_33 (l : Launch) (dC : Nat → ClassId) (dI : Nat → Nat → Nat) (cI cZ : ClassId) (ad : Nat → Nat) (z0 : ST) (x1 : Int32) (R : Int32 × ST) (h : x_Written_thing_33 z0 x1 = some R) : qMi l y_Written_thing w_Written_thing 0 0 (KX dC dI cI cZ) (dC, dI) q_cl (wX cI cZ ad) [.ref (ad 33), .int x1] z0 R := by
  intro sz
  refine Met.ofW (cc := b_Written_thing) (maxL := 2) (ret := (some .int)) (by decide) rfl ?_
  intro p e s m args below meth c s₁ B hml hv
  obtain ⟨rfl, hsz, hP, hKK, hD0⟩ := hv
  have hx := B.exec
  have hb := B.bytes
  have hr := B.returns
  have hts : ∀ w ∈ q_big, w.before _ s = true := fun w h => atoms_spec (ws := w_Written_thing) B.pre w (List.mem_cons_of_mem _ h)
  have hown : s.vm.findClass "SlippedStreams$Written" = some m.cls := findClass_of_methodNamed B.named
  have hlocks := B.notSynchronized
  subst hsz
  have hD := hD0.self (sz := s.heap.size)
  generalize hAe : va_A (wX cI cZ ad z0) s.heap.size = A at hD ⊢
  have hA : ∀ q : Nat, s.heap.size ≤ q → A q := fun q h => by rw [← hAe]; exact Or.inr h
  have hS : va_S A s.heap s.heap [] := va_S.rf
  have hK := hKK.1
  have hl := lv_entry ([.ref (ad 33), .int x1]) (n := 2) (Nat.le_of_ble_eq_true rfl)
  rw [lg_entry_eq]
  generalize (lg_sl ([.ref (ad 33), .int x1]) ++ List.replicate (2 - (lg_sl ([.ref (ad 33), .int x1])).length) Slot.unset).toArray = ls at hl ⊢
  have hl : lv_has ls 2 [(0, .ref (ad 33)), (1, .int x1)] := hl
  unfold x_Written_thing_33 at h
  refine lv_iload_n hx hb d_Written_thing_0 rfl (lv_at hl 1 rfl) ?_
  refine lv_if_lt (tgt := 27) hx hb d_Written_thing_1 (by decide) (fun hc => ?_) (fun hc => ?_)
  · replace h := if_t hc h
    refine lv_iconst (v := 0) hx hb d_Written_thing_27 (by decide) ?_
    exact q_iret hx hb hr hlocks h hP hD hS d_Written_thing_28
  · replace h := if_f hc h
    refine lv_iload_n hx hb d_Written_thing_4 rfl (lv_at hl 1 rfl) ?_
    refine lv_aload_n hx hb d_Written_thing_5 rfl (lv_at hl 0 rfl) ?_
    refine xg_33_count hx hb hts hin_Written hown hK hP (hts _ k_323) (fun _ h9 => h9) d_Written_thing_6 ?_
    refine lv_icmp_ge (tgt := 27) hx hb d_Written_thing_9 (by decide) (fun hc => ?_) (fun hc => ?_)
    · replace h := if_t hc h
      refine lv_iconst (v := 0) hx hb d_Written_thing_27 (by decide) ?_
      exact q_iret hx hb hr hlocks h hP hD hS d_Written_thing_28
    · replace h := if_f hc h
      refine lv_iload_n hx hb d_Written_thing_12 rfl (lv_at hl 1 rfl) ?_
      refine lv_bipush (v := 64) hx hb d_Written_thing_13 (by decide) ?_
      refine lv_icmp_ge (tgt := 27) hx hb d_Written_thing_15 (by decide) (fun hc => ?_) (fun hc => ?_)
      · replace h := if_t hc h
        refine lv_iconst (v := 0) hx hb d_Written_thing_27 (by decide) ?_
        exact q_iret hx hb hr hlocks h hP hD hS d_Written_thing_28
      · replace h := if_f hc h
        refine lv_aload_n hx hb d_Written_thing_18 rfl (lv_at hl 0 rfl) ?_
        refine xg_33_kept hx hb hts hin_Written hown hK hP (hts _ k_322) (fun _ h9 => h9) d_Written_thing_19 ?_
        refine lv_iload_n hx hb d_Written_thing_22 rfl (lv_at hl 1 rfl) ?_
        obtain ⟨hi, h⟩ := gin_e h
        refine xl_22 hx hb hK hP hi d_Written_thing_23 ?_
        refine lv_goto (tgt := 28) hx hb d_Written_thing_24 (by decide) ?_
        exact q_iret hx hb hr hlocks h hP hD hS d_Written_thing_28
def x_Written_thing_38 (z0 : ST) (x1 : Int32) : OR := if x1 < 0 then (some (0, z0)) else (if (z0.1 22) ≤ x1 then (some (0, z0)) else (if 64 ≤ x1 then (some (0, z0)) else (gin x1 64 (some (z0.2 25 x1.toNatClampNeg, z0)))))
set_option maxRecDepth 100000 in
set_option maxHeartbeats 4000000 in
theorem c_x_Written_thing_38 (l : Launch) (dC : Nat → ClassId) (dI : Nat → Nat → Nat) (cI cZ : ClassId) (ad : Nat → Nat) (z0 : ST) (x1 : Int32) (R : Int32 × ST) (h : x_Written_thing_38 z0 x1 = some R) : qMi l y_Written_thing w_Written_thing 0 0 (KX dC dI cI cZ) (dC, dI) q_cl (wX cI cZ ad) [.ref (ad 38), .int x1] z0 R := by
  intro sz
  refine Met.ofW (cc := b_Written_thing) (maxL := 2) (ret := (some .int)) (by decide) rfl ?_
  intro p e s m args below meth c s₁ B hml hv
  obtain ⟨rfl, hsz, hP, hKK, hD0⟩ := hv
  have hx := B.exec
  have hb := B.bytes
  have hr := B.returns
  have hts : ∀ w ∈ q_big, w.before _ s = true := fun w h => atoms_spec (ws := w_Written_thing) B.pre w (List.mem_cons_of_mem _ h)
  have hown : s.vm.findClass "SlippedStreams$Written" = some m.cls := findClass_of_methodNamed B.named
  have hlocks := B.notSynchronized
  subst hsz
  have hD := hD0.self (sz := s.heap.size)
  generalize hAe : va_A (wX cI cZ ad z0) s.heap.size = A at hD ⊢
  have hA : ∀ q : Nat, s.heap.size ≤ q → A q := fun q h => by rw [← hAe]; exact Or.inr h
  have hS : va_S A s.heap s.heap [] := va_S.rf
  have hK := hKK.1
  have hl := lv_entry ([.ref (ad 38), .int x1]) (n := 2) (Nat.le_of_ble_eq_true rfl)
  rw [lg_entry_eq]
  generalize (lg_sl ([.ref (ad 38), .int x1]) ++ List.replicate (2 - (lg_sl ([.ref (ad 38), .int x1])).length) Slot.unset).toArray = ls at hl ⊢
  have hl : lv_has ls 2 [(0, .ref (ad 38)), (1, .int x1)] := hl
  unfold x_Written_thing_38 at h
  refine lv_iload_n hx hb d_Written_thing_0 rfl (lv_at hl 1 rfl) ?_
  refine lv_if_lt (tgt := 27) hx hb d_Written_thing_1 (by decide) (fun hc => ?_) (fun hc => ?_)
  · replace h := if_t hc h
    refine lv_iconst (v := 0) hx hb d_Written_thing_27 (by decide) ?_
    exact q_iret hx hb hr hlocks h hP hD hS d_Written_thing_28
  · replace h := if_f hc h
    refine lv_iload_n hx hb d_Written_thing_4 rfl (lv_at hl 1 rfl) ?_
    refine lv_aload_n hx hb d_Written_thing_5 rfl (lv_at hl 0 rfl) ?_
    refine xg_38_count hx hb hts hin_Written hown hK hP (hts _ k_323) (fun _ h9 => h9) d_Written_thing_6 ?_
    refine lv_icmp_ge (tgt := 27) hx hb d_Written_thing_9 (by decide) (fun hc => ?_) (fun hc => ?_)
    · replace h := if_t hc h
      refine lv_iconst (v := 0) hx hb d_Written_thing_27 (by decide) ?_
      exact q_iret hx hb hr hlocks h hP hD hS d_Written_thing_28
    · replace h := if_f hc h
      refine lv_iload_n hx hb d_Written_thing_12 rfl (lv_at hl 1 rfl) ?_
      refine lv_bipush (v := 64) hx hb d_Written_thing_13 (by decide) ?_
      refine lv_icmp_ge (tgt := 27) hx hb d_Written_thing_15 (by decide) (fun hc => ?_) (fun hc => ?_)
      · replace h := if_t hc h
        refine lv_iconst (v := 0) hx hb d_Written_thing_27 (by decide) ?_
        exact q_iret hx hb hr hlocks h hP hD hS d_Written_thing_28
      · replace h := if_f hc h
        refine lv_aload_n hx hb d_Written_thing_18 rfl (lv_at hl 0 rfl) ?_
        refine xg_38_kept hx hb hts hin_Written hown hK hP (hts _ k_322) (fun _ h9 => h9) d_Written_thing_19 ?_
        refine lv_iload_n hx hb d_Written_thing_22 rfl (lv_at hl 1 rfl) ?_
        obtain ⟨hi, h⟩ := gin_e h
        refine xl_25 hx hb hK hP hi d_Written_thing_23 ?_
        refine lv_goto (tgt := 28) hx hb d_Written_thing_24 (by decide) ?_
        exact q_iret hx hb hr hlocks h hP hD hS d_Written_thing_28
def x_output (z0 : ST) (x1 x2 : Int32) : OR := if x2 = 0 then (obn (x_Written_thing_33 z0 x1) (fun r1 z1 => some (r1, z1))) else (obn (x_Written_thing_38 z0 x1) (fun r2 z2 => some (r2, z2)))
set_option maxRecDepth 100000 in
set_option maxHeartbeats 4000000 in
theorem c_x_output (l : Launch) (dC : Nat → ClassId) (dI : Nat → Nat → Nat) (cI cZ : ClassId) (ad : Nat → Nat) (z0 : ST) (x1 x2 : Int32) (R : Int32 × ST) (h : x_output z0 x1 x2 = some R) : qMi l y_SlippedStreams_output w_SlippedStreams_output 1 21 (KX dC dI cI cZ) (dC, dI) q_cl (wX cI cZ ad) [.ref (ad 0), .int x1, .int x2] z0 R := by
  intro sz
  refine Met.ofW (cc := b_SlippedStreams_output) (maxL := 3) (ret := (some .int)) (by decide) rfl ?_
  intro p e s m args below meth c s₁ B hml hv
  obtain ⟨rfl, hsz, hP, hKK, hD0⟩ := hv
  have hx := B.exec
  have hb := B.bytes
  have hr := B.returns
  have hts : ∀ w ∈ q_big, w.before _ s = true := fun w h => atoms_spec (ws := w_SlippedStreams_output) B.pre w (List.mem_cons_of_mem _ h)
  have hown : s.vm.findClass "SlippedStreams" = some m.cls := findClass_of_methodNamed B.named
  have hlocks := B.notSynchronized
  subst hsz
  have hD := hD0.self (sz := s.heap.size)
  generalize hAe : va_A (wX cI cZ ad z0) s.heap.size = A at hD ⊢
  have hA : ∀ q : Nat, s.heap.size ≤ q → A q := fun q h => by rw [← hAe]; exact Or.inr h
  have hS : va_S A s.heap s.heap [] := va_S.rf
  have hK := hKK.1
  have hl := lv_entry ([.ref (ad 0), .int x1, .int x2]) (n := 3) (Nat.le_of_ble_eq_true rfl)
  rw [lg_entry_eq]
  generalize (lg_sl ([.ref (ad 0), .int x1, .int x2]) ++ List.replicate (3 - (lg_sl ([.ref (ad 0), .int x1, .int x2])).length) Slot.unset).toArray = ls at hl ⊢
  have hl : lv_has ls 3 [(0, .ref (ad 0)), (1, .int x1), (2, .int x2)] := hl
  unfold x_output at h
  refine lv_iload_n hx hb d_SlippedStreams_output_0 rfl (lv_at hl 2 rfl) ?_
  refine lv_if_eq (tgt := 18) hx hb d_SlippedStreams_output_1 (by decide) (fun hc => ?_) (fun hc => ?_)
  · replace h := if_t hc h
    refine lv_aload_n hx hb d_SlippedStreams_output_18 rfl (lv_at hl 0 rfl) ?_
    refine xg_0_valueStream hx hb hts hin_SlippedStreams hown hK hP (hts _ k_365) (fun _ h9 => h9) d_SlippedStreams_output_19 ?_
    refine xg_31_written hx hb hts hin_ValueStream hown hK hP (hts _ k_331) (fun _ h9 => h9) d_SlippedStreams_output_22 ?_
    refine lv_iload_n hx hb d_SlippedStreams_output_25 rfl (lv_at hl 1 rfl) ?_
    obtain ⟨r1, z1, hc1, h⟩ := obn_e h
    refine q_goi (va_runV (As := [.int x1]) (rest := []) ⟨hx, hb, hml, hown, hts⟩ (c_x_Written_thing_33 l dC dI cI cZ ad z0 x1 _ hc1 _) (cwV 1 hts (q_goodL _ (q_l4 k_803 k_804 k_805 k_62) k_806) rfl rfl rfl (by decide +kernel) ⟨Nat.le_of_ble_eq_true rfl, Nat.le_of_ble_eq_true rfl⟩) (q_preV qok hKK hP hD (va_recv (ci := 7) (q0 := 33) hK hP rfl rfl)) rfl rfl hl.1 rfl (lv_room (Nat.le_of_ble_eq_true rfl)) d_SlippedStreams_output_26 ⟨Nat.le_refl _, Nat.le_refl _⟩) hD hS hA (fun H locs hP hD hS => ?_)
    exact q_iret hx hb hr hlocks h hP hD hS d_SlippedStreams_output_29
  · replace h := if_f hc h
    refine lv_aload_n hx hb d_SlippedStreams_output_4 rfl (lv_at hl 0 rfl) ?_
    refine xg_0_plainRun hx hb hts hin_SlippedStreams hown hK hP (hts _ k_366) (fun _ h9 => h9) d_SlippedStreams_output_5 ?_
    refine xg_35_written hx hb hts hin_PlainRun hown hK hP (hts _ k_352) (fun _ h9 => h9) d_SlippedStreams_output_8 ?_
    refine lv_iload_n hx hb d_SlippedStreams_output_11 rfl (lv_at hl 1 rfl) ?_
    obtain ⟨r2, z2, hc2, h⟩ := obn_e h
    refine q_goi (va_runV (As := [.int x1]) (rest := []) ⟨hx, hb, hml, hown, hts⟩ (c_x_Written_thing_38 l dC dI cI cZ ad z0 x1 _ hc2 _) (cwV 1 hts (q_goodL _ (q_l4 k_803 k_804 k_805 k_62) k_806) rfl rfl rfl (by decide +kernel) ⟨Nat.le_of_ble_eq_true rfl, Nat.le_of_ble_eq_true rfl⟩) (q_preV qok hKK hP hD (va_recv (ci := 7) (q0 := 38) hK hP rfl rfl)) rfl rfl hl.1 rfl (lv_room (Nat.le_of_ble_eq_true rfl)) d_SlippedStreams_output_12 ⟨Nat.le_refl _, Nat.le_refl _⟩) hD hS hA (fun H locs hP hD hS => ?_)
    refine lv_goto (tgt := 29) hx hb d_SlippedStreams_output_15 (by decide) ?_
    exact q_iret hx hb hr hlocks h hP hD hS d_SlippedStreams_output_29
