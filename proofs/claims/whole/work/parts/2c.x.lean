def x_Fifo_empty_15 (z0 : ST) : OR := bnd (stI z0 3 0) (fun z1 => bnd (stI z1 4 0) (fun z2 => some (0, z2)))
set_option maxRecDepth 100000 in
set_option maxHeartbeats 4000000 in
theorem c_x_Fifo_empty_15 (l : Launch) (dC : Nat → ClassId) (dI : Nat → Nat → Nat) (cI cZ : ClassId) (ad : Nat → Nat) (z0 : ST) (R : Int32 × ST) (h : x_Fifo_empty_15 z0 = some R) : qMv l y_Fifo_empty w_Fifo_empty 0 0 (KX dC dI cI cZ) (dC, dI) q_cl (wX cI cZ ad) [.ref (ad 15)] z0 R := by
  intro sz
  refine Met.ofW (cc := b_Fifo_empty) (maxL := 1) (ret := none) (by decide) rfl ?_
  intro p e s m args below meth c s₁ B hml hv
  obtain ⟨rfl, hsz, hP, hKK, hD0⟩ := hv
  have hx := B.exec
  have hb := B.bytes
  have hr := B.returns
  have hts : ∀ w ∈ q_big, w.before _ s = true := fun w h => atoms_spec (ws := w_Fifo_empty) B.pre w (List.mem_cons_of_mem _ h)
  have hown : s.vm.findClass "SlippedStreams$Fifo" = some m.cls := findClass_of_methodNamed B.named
  have hlocks := B.notSynchronized
  subst hsz
  have hD := hD0.self (sz := s.heap.size)
  generalize hAe : va_A (wX cI cZ ad z0) s.heap.size = A at hD ⊢
  have hA : ∀ q : Nat, s.heap.size ≤ q → A q := fun q h => by rw [← hAe]; exact Or.inr h
  have hS : va_S A s.heap s.heap [] := va_S.rf
  have hK := hKK.1
  have hl := lv_entry ([.ref (ad 15)]) (n := 1) (Nat.le_of_ble_eq_true rfl)
  rw [lg_entry_eq]
  generalize (lg_sl ([.ref (ad 15)]) ++ List.replicate (1 - (lg_sl ([.ref (ad 15)])).length) Slot.unset).toArray = ls at hl ⊢
  have hl : lv_has ls 1 [(0, .ref (ad 15))] := hl
  unfold x_Fifo_empty_15 at h
  refine lv_aload_n hx hb d_Fifo_empty_0 rfl (lv_at hl 0 rfl) ?_
  refine lv_iconst (v := 0) hx hb d_Fifo_empty_1 (by decide) ?_
  obtain ⟨z1, e1, h⟩ := bnd_e h
  refine xp_15_first hx hb hts hin_Fifo hown hK hP hD hS (hts _ k_160) (fun _ h9 => h9) d_Fifo_empty_2 e1 (fun H locs hP hD hS => ?_)
  refine lv_aload_n hx hb d_Fifo_empty_5 rfl (lv_at hl 0 rfl) ?_
  refine lv_iconst (v := 0) hx hb d_Fifo_empty_6 (by decide) ?_
  obtain ⟨z2, e2, h⟩ := bnd_e h
  refine xp_15_size hx hb hts hin_Fifo hown hK hP hD hS (hts _ k_161) (fun _ h9 => h9) d_Fifo_empty_7 e2 (fun H locs hP hD hS => ?_)
  exact q_vret hx hb hr hlocks h hP hD hS d_Fifo_empty_10
def x_Fifo_empty_16 (z0 : ST) : OR := bnd (stI z0 5 0) (fun z1 => bnd (stI z1 6 0) (fun z2 => some (0, z2)))
set_option maxRecDepth 100000 in
set_option maxHeartbeats 4000000 in
theorem c_x_Fifo_empty_16 (l : Launch) (dC : Nat → ClassId) (dI : Nat → Nat → Nat) (cI cZ : ClassId) (ad : Nat → Nat) (z0 : ST) (R : Int32 × ST) (h : x_Fifo_empty_16 z0 = some R) : qMv l y_Fifo_empty w_Fifo_empty 0 0 (KX dC dI cI cZ) (dC, dI) q_cl (wX cI cZ ad) [.ref (ad 16)] z0 R := by
  intro sz
  refine Met.ofW (cc := b_Fifo_empty) (maxL := 1) (ret := none) (by decide) rfl ?_
  intro p e s m args below meth c s₁ B hml hv
  obtain ⟨rfl, hsz, hP, hKK, hD0⟩ := hv
  have hx := B.exec
  have hb := B.bytes
  have hr := B.returns
  have hts : ∀ w ∈ q_big, w.before _ s = true := fun w h => atoms_spec (ws := w_Fifo_empty) B.pre w (List.mem_cons_of_mem _ h)
  have hown : s.vm.findClass "SlippedStreams$Fifo" = some m.cls := findClass_of_methodNamed B.named
  have hlocks := B.notSynchronized
  subst hsz
  have hD := hD0.self (sz := s.heap.size)
  generalize hAe : va_A (wX cI cZ ad z0) s.heap.size = A at hD ⊢
  have hA : ∀ q : Nat, s.heap.size ≤ q → A q := fun q h => by rw [← hAe]; exact Or.inr h
  have hS : va_S A s.heap s.heap [] := va_S.rf
  have hK := hKK.1
  have hl := lv_entry ([.ref (ad 16)]) (n := 1) (Nat.le_of_ble_eq_true rfl)
  rw [lg_entry_eq]
  generalize (lg_sl ([.ref (ad 16)]) ++ List.replicate (1 - (lg_sl ([.ref (ad 16)])).length) Slot.unset).toArray = ls at hl ⊢
  have hl : lv_has ls 1 [(0, .ref (ad 16))] := hl
  unfold x_Fifo_empty_16 at h
  refine lv_aload_n hx hb d_Fifo_empty_0 rfl (lv_at hl 0 rfl) ?_
  refine lv_iconst (v := 0) hx hb d_Fifo_empty_1 (by decide) ?_
  obtain ⟨z1, e1, h⟩ := bnd_e h
  refine xp_16_first hx hb hts hin_Fifo hown hK hP hD hS (hts _ k_160) (fun _ h9 => h9) d_Fifo_empty_2 e1 (fun H locs hP hD hS => ?_)
  refine lv_aload_n hx hb d_Fifo_empty_5 rfl (lv_at hl 0 rfl) ?_
  refine lv_iconst (v := 0) hx hb d_Fifo_empty_6 (by decide) ?_
  obtain ⟨z2, e2, h⟩ := bnd_e h
  refine xp_16_size hx hb hts hin_Fifo hown hK hP hD hS (hts _ k_161) (fun _ h9 => h9) d_Fifo_empty_7 e2 (fun H locs hP hD hS => ?_)
  exact q_vret hx hb hr hlocks h hP hD hS d_Fifo_empty_10
def x_Fifo_empty_17 (z0 : ST) : OR := bnd (stI z0 7 0) (fun z1 => bnd (stI z1 8 0) (fun z2 => some (0, z2)))
set_option maxRecDepth 100000 in
set_option maxHeartbeats 4000000 in
theorem c_x_Fifo_empty_17 (l : Launch) (dC : Nat → ClassId) (dI : Nat → Nat → Nat) (cI cZ : ClassId) (ad : Nat → Nat) (z0 : ST) (R : Int32 × ST) (h : x_Fifo_empty_17 z0 = some R) : qMv l y_Fifo_empty w_Fifo_empty 0 0 (KX dC dI cI cZ) (dC, dI) q_cl (wX cI cZ ad) [.ref (ad 17)] z0 R := by
  intro sz
  refine Met.ofW (cc := b_Fifo_empty) (maxL := 1) (ret := none) (by decide) rfl ?_
  intro p e s m args below meth c s₁ B hml hv
  obtain ⟨rfl, hsz, hP, hKK, hD0⟩ := hv
  have hx := B.exec
  have hb := B.bytes
  have hr := B.returns
  have hts : ∀ w ∈ q_big, w.before _ s = true := fun w h => atoms_spec (ws := w_Fifo_empty) B.pre w (List.mem_cons_of_mem _ h)
  have hown : s.vm.findClass "SlippedStreams$Fifo" = some m.cls := findClass_of_methodNamed B.named
  have hlocks := B.notSynchronized
  subst hsz
  have hD := hD0.self (sz := s.heap.size)
  generalize hAe : va_A (wX cI cZ ad z0) s.heap.size = A at hD ⊢
  have hA : ∀ q : Nat, s.heap.size ≤ q → A q := fun q h => by rw [← hAe]; exact Or.inr h
  have hS : va_S A s.heap s.heap [] := va_S.rf
  have hK := hKK.1
  have hl := lv_entry ([.ref (ad 17)]) (n := 1) (Nat.le_of_ble_eq_true rfl)
  rw [lg_entry_eq]
  generalize (lg_sl ([.ref (ad 17)]) ++ List.replicate (1 - (lg_sl ([.ref (ad 17)])).length) Slot.unset).toArray = ls at hl ⊢
  have hl : lv_has ls 1 [(0, .ref (ad 17))] := hl
  unfold x_Fifo_empty_17 at h
  refine lv_aload_n hx hb d_Fifo_empty_0 rfl (lv_at hl 0 rfl) ?_
  refine lv_iconst (v := 0) hx hb d_Fifo_empty_1 (by decide) ?_
  obtain ⟨z1, e1, h⟩ := bnd_e h
  refine xp_17_first hx hb hts hin_Fifo hown hK hP hD hS (hts _ k_160) (fun _ h9 => h9) d_Fifo_empty_2 e1 (fun H locs hP hD hS => ?_)
  refine lv_aload_n hx hb d_Fifo_empty_5 rfl (lv_at hl 0 rfl) ?_
  refine lv_iconst (v := 0) hx hb d_Fifo_empty_6 (by decide) ?_
  obtain ⟨z2, e2, h⟩ := bnd_e h
  refine xp_17_size hx hb hts hin_Fifo hown hK hP hD hS (hts _ k_161) (fun _ h9 => h9) d_Fifo_empty_7 e2 (fun H locs hP hD hS => ?_)
  exact q_vret hx hb hr hlocks h hP hD hS d_Fifo_empty_10
def x_Fifo_empty_18 (z0 : ST) : OR := bnd (stI z0 9 0) (fun z1 => bnd (stI z1 10 0) (fun z2 => some (0, z2)))
set_option maxRecDepth 100000 in
set_option maxHeartbeats 4000000 in
theorem c_x_Fifo_empty_18 (l : Launch) (dC : Nat → ClassId) (dI : Nat → Nat → Nat) (cI cZ : ClassId) (ad : Nat → Nat) (z0 : ST) (R : Int32 × ST) (h : x_Fifo_empty_18 z0 = some R) : qMv l y_Fifo_empty w_Fifo_empty 0 0 (KX dC dI cI cZ) (dC, dI) q_cl (wX cI cZ ad) [.ref (ad 18)] z0 R := by
  intro sz
  refine Met.ofW (cc := b_Fifo_empty) (maxL := 1) (ret := none) (by decide) rfl ?_
  intro p e s m args below meth c s₁ B hml hv
  obtain ⟨rfl, hsz, hP, hKK, hD0⟩ := hv
  have hx := B.exec
  have hb := B.bytes
  have hr := B.returns
  have hts : ∀ w ∈ q_big, w.before _ s = true := fun w h => atoms_spec (ws := w_Fifo_empty) B.pre w (List.mem_cons_of_mem _ h)
  have hown : s.vm.findClass "SlippedStreams$Fifo" = some m.cls := findClass_of_methodNamed B.named
  have hlocks := B.notSynchronized
  subst hsz
  have hD := hD0.self (sz := s.heap.size)
  generalize hAe : va_A (wX cI cZ ad z0) s.heap.size = A at hD ⊢
  have hA : ∀ q : Nat, s.heap.size ≤ q → A q := fun q h => by rw [← hAe]; exact Or.inr h
  have hS : va_S A s.heap s.heap [] := va_S.rf
  have hK := hKK.1
  have hl := lv_entry ([.ref (ad 18)]) (n := 1) (Nat.le_of_ble_eq_true rfl)
  rw [lg_entry_eq]
  generalize (lg_sl ([.ref (ad 18)]) ++ List.replicate (1 - (lg_sl ([.ref (ad 18)])).length) Slot.unset).toArray = ls at hl ⊢
  have hl : lv_has ls 1 [(0, .ref (ad 18))] := hl
  unfold x_Fifo_empty_18 at h
  refine lv_aload_n hx hb d_Fifo_empty_0 rfl (lv_at hl 0 rfl) ?_
  refine lv_iconst (v := 0) hx hb d_Fifo_empty_1 (by decide) ?_
  obtain ⟨z1, e1, h⟩ := bnd_e h
  refine xp_18_first hx hb hts hin_Fifo hown hK hP hD hS (hts _ k_160) (fun _ h9 => h9) d_Fifo_empty_2 e1 (fun H locs hP hD hS => ?_)
  refine lv_aload_n hx hb d_Fifo_empty_5 rfl (lv_at hl 0 rfl) ?_
  refine lv_iconst (v := 0) hx hb d_Fifo_empty_6 (by decide) ?_
  obtain ⟨z2, e2, h⟩ := bnd_e h
  refine xp_18_size hx hb hts hin_Fifo hown hK hP hD hS (hts _ k_161) (fun _ h9 => h9) d_Fifo_empty_7 e2 (fun H locs hP hD hS => ?_)
  exact q_vret hx hb hr hlocks h hP hD hS d_Fifo_empty_10
def x_Fifo_empty_19 (z0 : ST) : OR := bnd (stI z0 11 0) (fun z1 => bnd (stI z1 12 0) (fun z2 => some (0, z2)))
set_option maxRecDepth 100000 in
set_option maxHeartbeats 4000000 in
theorem c_x_Fifo_empty_19 (l : Launch) (dC : Nat → ClassId) (dI : Nat → Nat → Nat) (cI cZ : ClassId) (ad : Nat → Nat) (z0 : ST) (R : Int32 × ST) (h : x_Fifo_empty_19 z0 = some R) : qMv l y_Fifo_empty w_Fifo_empty 0 0 (KX dC dI cI cZ) (dC, dI) q_cl (wX cI cZ ad) [.ref (ad 19)] z0 R := by
  intro sz
  refine Met.ofW (cc := b_Fifo_empty) (maxL := 1) (ret := none) (by decide) rfl ?_
  intro p e s m args below meth c s₁ B hml hv
  obtain ⟨rfl, hsz, hP, hKK, hD0⟩ := hv
  have hx := B.exec
  have hb := B.bytes
  have hr := B.returns
  have hts : ∀ w ∈ q_big, w.before _ s = true := fun w h => atoms_spec (ws := w_Fifo_empty) B.pre w (List.mem_cons_of_mem _ h)
  have hown : s.vm.findClass "SlippedStreams$Fifo" = some m.cls := findClass_of_methodNamed B.named
  have hlocks := B.notSynchronized
  subst hsz
  have hD := hD0.self (sz := s.heap.size)
  generalize hAe : va_A (wX cI cZ ad z0) s.heap.size = A at hD ⊢
  have hA : ∀ q : Nat, s.heap.size ≤ q → A q := fun q h => by rw [← hAe]; exact Or.inr h
  have hS : va_S A s.heap s.heap [] := va_S.rf
  have hK := hKK.1
  have hl := lv_entry ([.ref (ad 19)]) (n := 1) (Nat.le_of_ble_eq_true rfl)
  rw [lg_entry_eq]
  generalize (lg_sl ([.ref (ad 19)]) ++ List.replicate (1 - (lg_sl ([.ref (ad 19)])).length) Slot.unset).toArray = ls at hl ⊢
  have hl : lv_has ls 1 [(0, .ref (ad 19))] := hl
  unfold x_Fifo_empty_19 at h
  refine lv_aload_n hx hb d_Fifo_empty_0 rfl (lv_at hl 0 rfl) ?_
  refine lv_iconst (v := 0) hx hb d_Fifo_empty_1 (by decide) ?_
  obtain ⟨z1, e1, h⟩ := bnd_e h
  refine xp_19_first hx hb hts hin_Fifo hown hK hP hD hS (hts _ k_160) (fun _ h9 => h9) d_Fifo_empty_2 e1 (fun H locs hP hD hS => ?_)
  refine lv_aload_n hx hb d_Fifo_empty_5 rfl (lv_at hl 0 rfl) ?_
  refine lv_iconst (v := 0) hx hb d_Fifo_empty_6 (by decide) ?_
  obtain ⟨z2, e2, h⟩ := bnd_e h
  refine xp_19_size hx hb hts hin_Fifo hown hK hP hD hS (hts _ k_161) (fun _ h9 => h9) d_Fifo_empty_7 e2 (fun H locs hP hD hS => ?_)
  exact q_vret hx hb hr hlocks h hP hD hS d_Fifo_empty_10
def x_StoreList_empty_25 (z0 : ST) : OR := bnd (stI z0 13 0) (fun z1 => bnd (stI z1 14 0) (fun z2 => some (0, z2)))
set_option maxRecDepth 100000 in
set_option maxHeartbeats 4000000 in
theorem c_x_StoreList_empty_25 (l : Launch) (dC : Nat → ClassId) (dI : Nat → Nat → Nat) (cI cZ : ClassId) (ad : Nat → Nat) (z0 : ST) (R : Int32 × ST) (h : x_StoreList_empty_25 z0 = some R) : qMv l y_StoreList_empty w_StoreList_empty 0 0 (KX dC dI cI cZ) (dC, dI) q_cl (wX cI cZ ad) [.ref (ad 25)] z0 R := by
  intro sz
  refine Met.ofW (cc := b_StoreList_empty) (maxL := 1) (ret := none) (by decide) rfl ?_
  intro p e s m args below meth c s₁ B hml hv
  obtain ⟨rfl, hsz, hP, hKK, hD0⟩ := hv
  have hx := B.exec
  have hb := B.bytes
  have hr := B.returns
  have hts : ∀ w ∈ q_big, w.before _ s = true := fun w h => atoms_spec (ws := w_StoreList_empty) B.pre w (List.mem_cons_of_mem _ h)
  have hown : s.vm.findClass "SlippedStreams$StoreList" = some m.cls := findClass_of_methodNamed B.named
  have hlocks := B.notSynchronized
  subst hsz
  have hD := hD0.self (sz := s.heap.size)
  generalize hAe : va_A (wX cI cZ ad z0) s.heap.size = A at hD ⊢
  have hA : ∀ q : Nat, s.heap.size ≤ q → A q := fun q h => by rw [← hAe]; exact Or.inr h
  have hS : va_S A s.heap s.heap [] := va_S.rf
  have hK := hKK.1
  have hl := lv_entry ([.ref (ad 25)]) (n := 1) (Nat.le_of_ble_eq_true rfl)
  rw [lg_entry_eq]
  generalize (lg_sl ([.ref (ad 25)]) ++ List.replicate (1 - (lg_sl ([.ref (ad 25)])).length) Slot.unset).toArray = ls at hl ⊢
  have hl : lv_has ls 1 [(0, .ref (ad 25))] := hl
  unfold x_StoreList_empty_25 at h
  refine lv_aload_n hx hb d_StoreList_empty_0 rfl (lv_at hl 0 rfl) ?_
  refine lv_iconst (v := 0) hx hb d_StoreList_empty_1 (by decide) ?_
  obtain ⟨z1, e1, h⟩ := bnd_e h
  refine xp_25_first hx hb hts hin_StoreList hown hK hP hD hS (hts _ k_183) (fun _ h9 => h9) d_StoreList_empty_2 e1 (fun H locs hP hD hS => ?_)
  refine lv_aload_n hx hb d_StoreList_empty_5 rfl (lv_at hl 0 rfl) ?_
  refine lv_iconst (v := 0) hx hb d_StoreList_empty_6 (by decide) ?_
  obtain ⟨z2, e2, h⟩ := bnd_e h
  refine xp_25_size hx hb hts hin_StoreList hown hK hP hD hS (hts _ k_184) (fun _ h9 => h9) d_StoreList_empty_7 e2 (fun H locs hP hD hS => ?_)
  exact q_vret hx hb hr hlocks h hP hD hS d_StoreList_empty_10
def x_Link_begin_13_12 (z0 : ST) : OR := bnd (stA z0 11 (va_cpy (z0.2 10) (z0.2 11) (0 : Int32).toNatClampNeg (0 : Int32).toNatClampNeg (32 : Int32).toNatClampNeg)) (fun z1 => obn (x_Fifo_empty_15 z1) (fun r2 z2 => obn (x_Fifo_empty_16 z2) (fun r3 z3 => obn (x_Fifo_empty_17 z3) (fun r4 z4 => obn (x_Fifo_empty_18 z4) (fun r5 z5 => obn (x_Fifo_empty_19 z5) (fun r6 z6 => obn (x_StoreList_empty_25 z6) (fun r7 z7 => some (0, z7))))))))
set_option maxRecDepth 100000 in
set_option maxHeartbeats 4000000 in
theorem c_x_Link_begin_13_12 (l : Launch) (dC : Nat → ClassId) (dI : Nat → Nat → Nat) (cI cZ : ClassId) (ad : Nat → Nat) (z0 : ST) (R : Int32 × ST) (h : x_Link_begin_13_12 z0 = some R) : qMv l y_Link_begin w_Link_begin 1 40 (KX dC dI cI cZ) (dC, dI) q_cl (wX cI cZ ad) [.ref (ad 13), .ref (ad 12)] z0 R := by
  intro sz
  refine Met.ofW (cc := b_Link_begin) (maxL := 2) (ret := none) (by decide) rfl ?_
  intro p e s m args below meth c s₁ B hml hv
  obtain ⟨rfl, hsz, hP, hKK, hD0⟩ := hv
  have hx := B.exec
  have hb := B.bytes
  have hr := B.returns
  have hts : ∀ w ∈ q_big, w.before _ s = true := fun w h => atoms_spec (ws := w_Link_begin) B.pre w (List.mem_cons_of_mem _ h)
  have hown : s.vm.findClass "SlippedStreams$Link" = some m.cls := findClass_of_methodNamed B.named
  have hlocks := B.notSynchronized
  subst hsz
  have hD := hD0.self (sz := s.heap.size)
  generalize hAe : va_A (wX cI cZ ad z0) s.heap.size = A at hD ⊢
  have hA : ∀ q : Nat, s.heap.size ≤ q → A q := fun q h => by rw [← hAe]; exact Or.inr h
  have hS : va_S A s.heap s.heap [] := va_S.rf
  have hK := hKK.1
  have hl := lv_entry ([.ref (ad 13), .ref (ad 12)]) (n := 2) (Nat.le_of_ble_eq_true rfl)
  rw [lg_entry_eq]
  generalize (lg_sl ([.ref (ad 13), .ref (ad 12)]) ++ List.replicate (2 - (lg_sl ([.ref (ad 13), .ref (ad 12)])).length) Slot.unset).toArray = ls at hl ⊢
  have hl : lv_has ls 2 [(0, .ref (ad 13)), (1, .ref (ad 12))] := hl
  unfold x_Link_begin_13_12 at h
  refine lv_aload_n hx hb d_Link_begin_0 rfl (lv_at hl 1 rfl) ?_
  refine lv_iconst (v := 0) hx hb d_Link_begin_1 (by decide) ?_
  refine lv_aload_n hx hb d_Link_begin_2 rfl (lv_at hl 0 rfl) ?_
  refine xg_13_memory hx hb hts hin_Link hown hK hP (hts _ k_199) (fun _ h9 => h9) d_Link_begin_3 ?_
  refine lv_iconst (v := 0) hx hb d_Link_begin_6 (by decide) ?_
  refine lv_bipush (v := 32) hx hb d_Link_begin_7 (by decide) ?_
  obtain ⟨z1, e1, h⟩ := bnd_e h
  refine va_copyi (ty := .int) hx hb (hml.trans hl.1.symm) hown (hts _ k_445) (hts _ k_447) (hts _ k_446) (hts _ k_65) hK hP hD hS 12 14 0 0 rfl rfl rfl rfl rfl (by decide) (by decide) (by decide) (by decide) (by decide) (fun _ _ => rfl) (Nat.le_of_ble_eq_true rfl) (Nat.le_of_ble_eq_true rfl) d_Link_begin_9 (fun H locs hP hD hS => ?_)
  have hP : va_P (dC, dI) q_cl (wX cI cZ ad z1) H := by rw [e1]; exact hP
  have hD : va_D A (wX cI cZ ad z1) := by rw [e1]; exact hD
  refine lv_aload_n hx hb d_Link_begin_12 rfl (lv_at hl 0 rfl) ?_
  refine xg_13_loads hx hb hts hin_Link hown hK hP (hts _ k_202) (fun _ h9 => h9) d_Link_begin_13 ?_
  obtain ⟨r2, z2, hc2, h⟩ := obn_e h
  refine q_gov (va_runV (As := []) (rest := []) ⟨hx, hb, hml, hown, hts⟩ (c_x_Fifo_empty_15 l dC dI cI cZ ad z1 _ hc2 _) (cwV 0 hts (q_goodL _ (q_l4 k_448 k_449 k_450 k_56) k_451) rfl rfl rfl (by decide +kernel) ⟨Nat.le_of_ble_eq_true rfl, Nat.le_of_ble_eq_true rfl⟩) (q_preV qok hKK hP hD (va_recv (ci := 3) (q0 := 15) hK hP rfl rfl)) rfl rfl hl.1 rfl (lv_room (Nat.le_of_ble_eq_true rfl)) d_Link_begin_16 ⟨Nat.le_refl _, Nat.le_refl _⟩) hD hS hA (fun H locs hP hD hS => ?_)
  refine lv_aload_n hx hb d_Link_begin_19 rfl (lv_at hl 0 rfl) ?_
  refine xg_13_stored hx hb hts hin_Link hown hK hP (hts _ k_206) (fun _ h9 => h9) d_Link_begin_20 ?_
  obtain ⟨r3, z3, hc3, h⟩ := obn_e h
  refine q_gov (va_runV (As := []) (rest := []) ⟨hx, hb, hml, hown, hts⟩ (c_x_Fifo_empty_16 l dC dI cI cZ ad z2 _ hc3 _) (cwV 0 hts (q_goodL _ (q_l4 k_448 k_449 k_450 k_56) k_451) rfl rfl rfl (by decide +kernel) ⟨Nat.le_of_ble_eq_true rfl, Nat.le_of_ble_eq_true rfl⟩) (q_preV qok hKK hP hD (va_recv (ci := 3) (q0 := 16) hK hP rfl rfl)) rfl rfl hl.1 rfl (lv_room (Nat.le_of_ble_eq_true rfl)) d_Link_begin_23 ⟨Nat.le_refl _, Nat.le_refl _⟩) hD hS hA (fun H locs hP hD hS => ?_)
  refine lv_aload_n hx hb d_Link_begin_26 rfl (lv_at hl 0 rfl) ?_
  refine xg_13_valueOutcomes hx hb hts hin_Link hown hK hP (hts _ k_210) (fun _ h9 => h9) d_Link_begin_27 ?_
  obtain ⟨r4, z4, hc4, h⟩ := obn_e h
  refine q_gov (va_runV (As := []) (rest := []) ⟨hx, hb, hml, hown, hts⟩ (c_x_Fifo_empty_17 l dC dI cI cZ ad z3 _ hc4 _) (cwV 0 hts (q_goodL _ (q_l4 k_448 k_449 k_450 k_56) k_451) rfl rfl rfl (by decide +kernel) ⟨Nat.le_of_ble_eq_true rfl, Nat.le_of_ble_eq_true rfl⟩) (q_preV qok hKK hP hD (va_recv (ci := 3) (q0 := 17) hK hP rfl rfl)) rfl rfl hl.1 rfl (lv_room (Nat.le_of_ble_eq_true rfl)) d_Link_begin_30 ⟨Nat.le_refl _, Nat.le_refl _⟩) hD hS hA (fun H locs hP hD hS => ?_)
  refine lv_aload_n hx hb d_Link_begin_33 rfl (lv_at hl 0 rfl) ?_
  refine xg_13_addressOutcomes hx hb hts hin_Link hown hK hP (hts _ k_214) (fun _ h9 => h9) d_Link_begin_34 ?_
  obtain ⟨r5, z5, hc5, h⟩ := obn_e h
  refine q_gov (va_runV (As := []) (rest := []) ⟨hx, hb, hml, hown, hts⟩ (c_x_Fifo_empty_18 l dC dI cI cZ ad z4 _ hc5 _) (cwV 0 hts (q_goodL _ (q_l4 k_448 k_449 k_450 k_56) k_451) rfl rfl rfl (by decide +kernel) ⟨Nat.le_of_ble_eq_true rfl, Nat.le_of_ble_eq_true rfl⟩) (q_preV qok hKK hP hD (va_recv (ci := 3) (q0 := 18) hK hP rfl rfl)) rfl rfl hl.1 rfl (lv_room (Nat.le_of_ble_eq_true rfl)) d_Link_begin_37 ⟨Nat.le_refl _, Nat.le_refl _⟩) hD hS hA (fun H locs hP hD hS => ?_)
  refine lv_aload_n hx hb d_Link_begin_40 rfl (lv_at hl 0 rfl) ?_
  refine xg_13_passed hx hb hts hin_Link hown hK hP (hts _ k_218) (fun _ h9 => h9) d_Link_begin_41 ?_
  obtain ⟨r6, z6, hc6, h⟩ := obn_e h
  refine q_gov (va_runV (As := []) (rest := []) ⟨hx, hb, hml, hown, hts⟩ (c_x_Fifo_empty_19 l dC dI cI cZ ad z5 _ hc6 _) (cwV 0 hts (q_goodL _ (q_l4 k_448 k_449 k_450 k_56) k_451) rfl rfl rfl (by decide +kernel) ⟨Nat.le_of_ble_eq_true rfl, Nat.le_of_ble_eq_true rfl⟩) (q_preV qok hKK hP hD (va_recv (ci := 3) (q0 := 19) hK hP rfl rfl)) rfl rfl hl.1 rfl (lv_room (Nat.le_of_ble_eq_true rfl)) d_Link_begin_44 ⟨Nat.le_refl _, Nat.le_refl _⟩) hD hS hA (fun H locs hP hD hS => ?_)
  refine lv_aload_n hx hb d_Link_begin_47 rfl (lv_at hl 0 rfl) ?_
  refine xg_13_stores hx hb hts hin_Link hown hK hP (hts _ k_222) (fun _ h9 => h9) d_Link_begin_48 ?_
  obtain ⟨r7, z7, hc7, h⟩ := obn_e h
  refine q_gov (va_runV (As := []) (rest := []) ⟨hx, hb, hml, hown, hts⟩ (c_x_StoreList_empty_25 l dC dI cI cZ ad z6 _ hc7 _) (cwV 0 hts (q_goodL _ (q_l4 k_452 k_453 k_454 k_57) k_455) rfl rfl rfl (by decide +kernel) ⟨Nat.le_of_ble_eq_true rfl, Nat.le_of_ble_eq_true rfl⟩) (q_preV qok hKK hP hD (va_recv (ci := 4) (q0 := 25) hK hP rfl rfl)) rfl rfl hl.1 rfl (lv_room (Nat.le_of_ble_eq_true rfl)) d_Link_begin_51 ⟨Nat.le_refl _, Nat.le_refl _⟩) hD hS hA (fun H locs hP hD hS => ?_)
  exact q_vret hx hb hr hlocks h hP hD hS d_Link_begin_54
def x_Arrays_fill_30_g0 (k : Nat → ST → Int32 → Int32 → Int32 → OR) (z0 : ST) (y1 y2 y3 : Int32) : OR := k 1 z0 y1 0 8
def x_Arrays_fill_30_g5 (k : Nat → ST → Int32 → Int32 → Int32 → OR) (z0 : ST) (y1 y2 y3 : Int32) : OR := if y3 ≤ y2 then (some (0, z0)) else (gin y2 8 (bnd (stA z0 20 (upd (z0.2 20) y2.toNatClampNeg y1)) (fun z1 => k 1 z1 y1 (y2 + 1) y3)))
def x_Arrays_fill_30_g (k : Nat → ST → Int32 → Int32 → Int32 → OR) (n : Nat) : ST → Int32 → Int32 → Int32 → OR := match n with
  | 0 => x_Arrays_fill_30_g0 k
  | 1 => x_Arrays_fill_30_g5 k
  | _ => fun _ _ _ _ => none
def x_Arrays_fill_30_f : Nat → Nat → ST → Int32 → Int32 → Int32 → OR
  | 0 => fun _ _ _ _ _ => none
  | n + 1 => x_Arrays_fill_30_g (x_Arrays_fill_30_f n)
def x_Arrays_fill_30 (z0 : ST) (x1 : Int32) : OR := x_Arrays_fill_30_f 4000 0 z0 x1 0 0
set_option maxRecDepth 100000 in
set_option maxHeartbeats 4000000 in
theorem c_x_Arrays_fill_30 (l : Launch) (dC : Nat → ClassId) (dI : Nat → Nat → Nat) (cI cZ : ClassId) (ad : Nat → Nat) (z0 : ST) (x1 : Int32) (R : Int32 × ST) (h : x_Arrays_fill_30 z0 x1 = some R) : qMv l y_Arrays_fill w_Arrays_fill 0 0 (KX dC dI cI cZ) (dC, dI) q_cl (wX cI cZ ad) [.ref (ad 30), .int x1] z0 R := by
  intro sz
  refine Met.ofW (cc := b_Arrays_fill) (maxL := 4) (ret := none) (by decide) rfl ?_
  intro p e s m args below meth c s₁ B hml hv
  obtain ⟨rfl, hsz, hP, hKK, hD0⟩ := hv
  have hx := B.exec
  have hb := B.bytes
  have hr := B.returns
  have hts : ∀ w ∈ q_big, w.before _ s = true := fun w h => atoms_spec (ws := w_Arrays_fill) B.pre w (List.mem_cons_of_mem _ h)
  have hown : s.vm.findClass "java/util/Arrays" = some m.cls := findClass_of_methodNamed B.named
  have hlocks := B.notSynchronized
  subst hsz
  have hD := hD0.self (sz := s.heap.size)
  generalize hAe : va_A (wX cI cZ ad z0) s.heap.size = A at hD ⊢
  have hA : ∀ q : Nat, s.heap.size ≤ q → A q := fun q h => by rw [← hAe]; exact Or.inr h
  have hS : va_S A s.heap s.heap [] := va_S.rf
  have hK := hKK.1
  have hl := lv_entry ([.ref (ad 30), .int x1]) (n := 4) (Nat.le_of_ble_eq_true rfl)
  rw [lg_entry_eq]
  generalize (lg_sl ([.ref (ad 30), .int x1]) ++ List.replicate (4 - (lg_sl ([.ref (ad 30), .int x1])).length) Slot.unset).toArray = ls at hl ⊢
  have hl : lv_has ls 4 [(0, .ref (ad 30)), (1, .int x1)] := hl
  have key : ∀ n : Nat, (∀ (z0 : ST) (y1 y2 y3 : Int32) (H : Heap) (locs : List Loc) (ls : Array Slot), x_Arrays_fill_30_f n 0 z0 y1 y2 y3 = some R → va_P (dC, dI) q_cl (wX cI cZ ad z0) H → va_D A (wX cI cZ ad z0) → va_S A s.heap H locs → lv_has ls 4 [(0, .ref (ad 30)), (1, .int y1)] → qWv p l e w_Arrays_fill 0 0 s m [.ref (ad 30), .int x1] below meth c (dC, dI) q_cl (wX cI cZ ad) A R H locs (F0 m 0 ls [])) ∧ (∀ (z0 : ST) (y1 y2 y3 : Int32) (H : Heap) (locs : List Loc) (ls : Array Slot), x_Arrays_fill_30_f n 1 z0 y1 y2 y3 = some R → va_P (dC, dI) q_cl (wX cI cZ ad z0) H → va_D A (wX cI cZ ad z0) → va_S A s.heap H locs → lv_has ls 4 [(0, .ref (ad 30)), (1, .int y1), (2, .int y2), (3, .int y3)] → qWv p l e w_Arrays_fill 0 0 s m [.ref (ad 30), .int x1] below meth c (dC, dI) q_cl (wX cI cZ ad) A R H locs (F0 m 5 ls [])) := by
    intro n
    induction n with
    | zero => exact ⟨fun z0 y1 y2 y3 H locs ls h hP hD hS hl => (by cases h), fun z0 y1 y2 y3 H locs ls h hP hD hS hl => (by cases h)⟩
    | succ n ih =>
      obtain ⟨jp_0, jp_5⟩ := ih
      refine ⟨?_, ?_⟩
      · intro z0 y1 y2 y3 H locs ls h hP hD hS hl
        replace h : x_Arrays_fill_30_g0 (x_Arrays_fill_30_f n) z0 y1 y2 y3 = some R := h
        unfold x_Arrays_fill_30_g0 at h
        refine lv_iconst (v := 0) hx hb d_Arrays_fill_0 (by decide) ?_
        refine lv_istore_n (lv' := [(2, .int 0), (0, .ref (ad 30)), (1, .int y1)]) hx hb d_Arrays_fill_1 rfl hl (by decide) rfl (fun ls hl => ?_)
        refine lv_aload_n hx hb d_Arrays_fill_2 rfl (lv_at hl 1 rfl) ?_
        refine va_alen (v := 8) hx hb hK hP 30 0 rfl rfl rfl d_Arrays_fill_3 ?_
        refine lv_istore_n (lv' := [(3, .int 8), (2, .int 0), (0, .ref (ad 30)), (1, .int y1)]) hx hb d_Arrays_fill_4 rfl hl (by decide) rfl (fun ls hl => ?_)
        exact jp_5 z0 y1 0 8 _ _ _ h hP hD hS (lv_sub hl [2, 3, 1, 0] rfl)
      · intro z0 y1 y2 y3 H locs ls h hP hD hS hl
        replace h : x_Arrays_fill_30_g5 (x_Arrays_fill_30_f n) z0 y1 y2 y3 = some R := h
        unfold x_Arrays_fill_30_g5 at h
        refine lv_iload_n hx hb d_Arrays_fill_5 rfl (lv_at hl 2 rfl) ?_
        refine lv_iload_n hx hb d_Arrays_fill_6 rfl (lv_at hl 3 rfl) ?_
        refine lv_icmp_ge (tgt := 20) hx hb d_Arrays_fill_7 (by decide) (fun hc => ?_) (fun hc => ?_)
        · replace h := if_t hc h
          exact q_vret hx hb hr hlocks h hP hD hS d_Arrays_fill_20
        · replace h := if_f hc h
          refine lv_aload_n hx hb d_Arrays_fill_10 rfl (lv_at hl 0 rfl) ?_
          refine lv_iload_n hx hb d_Arrays_fill_11 rfl (lv_at hl 2 rfl) ?_
          refine lv_iload_n hx hb d_Arrays_fill_12 rfl (lv_at hl 1 rfl) ?_
          obtain ⟨hi, h⟩ := gin_e h
          obtain ⟨z1, e1, h⟩ := bnd_e h
          refine xs_20 hx hb hK hP hD hS hi d_Arrays_fill_13 e1 (fun H locs hP hD hS => ?_)
          refine lv_iinc (k := 2) (v := y2 + 1) (lv' := [(2, .int (y2 + 1)), (0, .ref (ad 30)), (1, .int y1), (3, .int y3)]) hx hb d_Arrays_fill_14 hl rfl rfl (by decide) rfl (fun ls hl => ?_)
          refine lv_goto (tgt := 5) hx hb d_Arrays_fill_17 (by decide) ?_
          exact jp_5 z1 y1 (y2 + 1) y3 _ _ _ h hP hD hS (lv_sub hl [1, 2, 0, 3] rfl)
  exact (key 4000).1 z0 x1 0 0 _ _ _ h hP hD hS (lv_sub hl [0, 1] rfl)
def x_Stream_goOver_29_g0 (k : Nat → ST → OR) (z0 : ST) : OR := if (z0.1 1) ≤ (z0.1 15) then (some (0, z0)) else (gin (z0.1 15) 24 (if (z0.2 8 (z0.1 15).toNatClampNeg) = 0 then (some (0, z0)) else (bnd (stI z0 15 ((z0.1 15) + 1)) (fun z1 => bnd (stI z1 16 ((z1.1 16) + 1)) (fun z2 => k 0 z2)))))
def x_Stream_goOver_29_g (k : Nat → ST → OR) (n : Nat) : ST → OR := match n with
  | 0 => x_Stream_goOver_29_g0 k
  | _ => fun _ => none
def x_Stream_goOver_29_f : Nat → Nat → ST → OR
  | 0 => fun _ _ => none
  | n + 1 => x_Stream_goOver_29_g (x_Stream_goOver_29_f n)
def x_Stream_goOver_29 (z0 : ST) : OR := x_Stream_goOver_29_f 4000 0 z0
set_option maxRecDepth 100000 in
set_option maxHeartbeats 4000000 in
theorem c_x_Stream_goOver_29 (l : Launch) (dC : Nat → ClassId) (dI : Nat → Nat → Nat) (cI cZ : ClassId) (ad : Nat → Nat) (z0 : ST) (R : Int32 × ST) (h : x_Stream_goOver_29 z0 = some R) : qMv l y_Stream_goOver w_Stream_goOver 0 0 (KX dC dI cI cZ) (dC, dI) q_cl (wX cI cZ ad) [.ref (ad 29)] z0 R := by
  intro sz
  refine Met.ofW (cc := b_Stream_goOver) (maxL := 1) (ret := none) (by decide) rfl ?_
  intro p e s m args below meth c s₁ B hml hv
  obtain ⟨rfl, hsz, hP, hKK, hD0⟩ := hv
  have hx := B.exec
  have hb := B.bytes
  have hr := B.returns
  have hts : ∀ w ∈ q_big, w.before _ s = true := fun w h => atoms_spec (ws := w_Stream_goOver) B.pre w (List.mem_cons_of_mem _ h)
  have hown : s.vm.findClass "SlippedStreams$Stream" = some m.cls := findClass_of_methodNamed B.named
  have hlocks := B.notSynchronized
  subst hsz
  have hD := hD0.self (sz := s.heap.size)
  generalize hAe : va_A (wX cI cZ ad z0) s.heap.size = A at hD ⊢
  have hA : ∀ q : Nat, s.heap.size ≤ q → A q := fun q h => by rw [← hAe]; exact Or.inr h
  have hS : va_S A s.heap s.heap [] := va_S.rf
  have hK := hKK.1
  have hl := lv_entry ([.ref (ad 29)]) (n := 1) (Nat.le_of_ble_eq_true rfl)
  rw [lg_entry_eq]
  generalize (lg_sl ([.ref (ad 29)]) ++ List.replicate (1 - (lg_sl ([.ref (ad 29)])).length) Slot.unset).toArray = ls at hl ⊢
  have hl : lv_has ls 1 [(0, .ref (ad 29))] := hl
  have key : ∀ n : Nat, (∀ (z0 : ST) (H : Heap) (locs : List Loc) (ls : Array Slot), x_Stream_goOver_29_f n 0 z0 = some R → va_P (dC, dI) q_cl (wX cI cZ ad z0) H → va_D A (wX cI cZ ad z0) → va_S A s.heap H locs → lv_has ls 1 [(0, .ref (ad 29))] → qWv p l e w_Stream_goOver 0 0 s m [.ref (ad 29)] below meth c (dC, dI) q_cl (wX cI cZ ad) A R H locs (F0 m 0 ls [])) ∧ True := by
    intro n
    induction n with
    | zero => exact ⟨fun z0 H locs ls h hP hD hS hl => (by cases h), trivial⟩
    | succ n ih =>
      obtain ⟨jp_0, -⟩ := ih
      refine ⟨?_, trivial⟩
      · intro z0 H locs ls h hP hD hS hl
        replace h : x_Stream_goOver_29_g0 (x_Stream_goOver_29_f n) z0 = some R := h
        unfold x_Stream_goOver_29_g0 at h
        refine lv_aload_n hx hb d_Stream_goOver_0 rfl (lv_at hl 0 rfl) ?_
        refine xg_29_at hx hb hts hin_AddressStream hown hK hP (hts _ k_286) (fun x9 h9 => u_same (hts _ k_287) x9 h9) d_Stream_goOver_1 ?_
        refine lv_aload_n hx hb d_Stream_goOver_4 rfl (lv_at hl 0 rfl) ?_
        refine xg_29_program hx hb hts hin_AddressStream hown hK hP (hts _ k_272) (fun x9 h9 => u_same (hts _ k_273) x9 h9) d_Stream_goOver_5 ?_
        refine xg_1_size hx hb hts hin_Program hown hK hP (hts _ k_117) (fun _ h9 => h9) d_Stream_goOver_8 ?_
        refine lv_icmp_ge (tgt := 49) hx hb d_Stream_goOver_11 (by decide) (fun hc => ?_) (fun hc => ?_)
        · replace h := if_t hc h
          exact q_vret hx hb hr hlocks h hP hD hS d_Stream_goOver_49
        · replace h := if_f hc h
          refine lv_aload_n hx hb d_Stream_goOver_14 rfl (lv_at hl 0 rfl) ?_
          refine xg_29_nothings hx hb hts hin_AddressStream hown hK hP (hts _ k_259) (fun _ h9 => h9) d_Stream_goOver_15 ?_
          refine lv_aload_n hx hb d_Stream_goOver_18 rfl (lv_at hl 0 rfl) ?_
          refine xg_29_at hx hb hts hin_AddressStream hown hK hP (hts _ k_286) (fun x9 h9 => u_same (hts _ k_287) x9 h9) d_Stream_goOver_19 ?_
          obtain ⟨hi, h⟩ := gin_e h
          refine xl_8 hx hb hK hP hi d_Stream_goOver_22 ?_
          refine lv_if_eq (tgt := 49) hx hb d_Stream_goOver_23 (by decide) (fun hc => ?_) (fun hc => ?_)
          · replace h := if_t hc h
            exact q_vret hx hb hr hlocks h hP hD hS d_Stream_goOver_49
          · replace h := if_f hc h
            refine lv_aload_n hx hb d_Stream_goOver_26 rfl (lv_at hl 0 rfl) ?_
            refine lv_dup hx hb d_Stream_goOver_27 rfl ?_
            refine xg_29_at hx hb hts hin_AddressStream hown hK hP (hts _ k_286) (fun x9 h9 => u_same (hts _ k_287) x9 h9) d_Stream_goOver_28 ?_
            refine lv_iconst (v := 1) hx hb d_Stream_goOver_31 (by decide) ?_
            refine lv_iadd hx hb d_Stream_goOver_32 ?_
            obtain ⟨z1, e1, h⟩ := bnd_e h
            refine xp_29_at hx hb hts hin_AddressStream hown hK hP hD hS (hts _ k_286) (fun x9 h9 => u_same (hts _ k_287) x9 h9) d_Stream_goOver_33 e1 (fun H locs hP hD hS => ?_)
            refine lv_aload_n hx hb d_Stream_goOver_36 rfl (lv_at hl 0 rfl) ?_
            refine lv_dup hx hb d_Stream_goOver_37 rfl ?_
            refine xg_29_left hx hb hts hin_AddressStream hown hK hP (hts _ k_260) (fun _ h9 => h9) d_Stream_goOver_38 ?_
            refine lv_iconst (v := 1) hx hb d_Stream_goOver_41 (by decide) ?_
            refine lv_iadd hx hb d_Stream_goOver_42 ?_
            obtain ⟨z2, e2, h⟩ := bnd_e h
            refine xp_29_left hx hb hts hin_AddressStream hown hK hP hD hS (hts _ k_260) (fun _ h9 => h9) d_Stream_goOver_43 e2 (fun H locs hP hD hS => ?_)
            refine lv_goto (tgt := 0) hx hb d_Stream_goOver_46 (by decide) ?_
            exact jp_0 z2 _ _ _ h hP hD hS (lv_sub hl [0] rfl)
  exact (key 4000).1 z0 _ _ _ h hP hD hS (lv_sub hl [0] rfl)
def x_Stream_begin_29 (z0 : ST) : OR := obn (x_Arrays_fill_30 z0 0) (fun r1 z1 => bnd (stI z1 16 0) (fun z2 => bnd (stI z2 15 0) (fun z3 => obn (x_Stream_goOver_29 z3) (fun r4 z4 => some (0, z4)))))
set_option maxRecDepth 100000 in
set_option maxHeartbeats 4000000 in
theorem c_x_Stream_begin_29 (l : Launch) (dC : Nat → ClassId) (dI : Nat → Nat → Nat) (cI cZ : ClassId) (ad : Nat → Nat) (z0 : ST) (R : Int32 × ST) (h : x_Stream_begin_29 z0 = some R) : qMv l y_Stream_begin w_Stream_begin 1 23 (KX dC dI cI cZ) (dC, dI) q_cl (wX cI cZ ad) [.ref (ad 29)] z0 R := by
  intro sz
  refine Met.ofW (cc := b_Stream_begin) (maxL := 1) (ret := none) (by decide) rfl ?_
  intro p e s m args below meth c s₁ B hml hv
  obtain ⟨rfl, hsz, hP, hKK, hD0⟩ := hv
  have hx := B.exec
  have hb := B.bytes
  have hr := B.returns
  have hts : ∀ w ∈ q_big, w.before _ s = true := fun w h => atoms_spec (ws := w_Stream_begin) B.pre w (List.mem_cons_of_mem _ h)
  have hown : s.vm.findClass "SlippedStreams$Stream" = some m.cls := findClass_of_methodNamed B.named
  have hlocks := B.notSynchronized
  subst hsz
  have hD := hD0.self (sz := s.heap.size)
  generalize hAe : va_A (wX cI cZ ad z0) s.heap.size = A at hD ⊢
  have hA : ∀ q : Nat, s.heap.size ≤ q → A q := fun q h => by rw [← hAe]; exact Or.inr h
  have hS : va_S A s.heap s.heap [] := va_S.rf
  have hK := hKK.1
  have hl := lv_entry ([.ref (ad 29)]) (n := 1) (Nat.le_of_ble_eq_true rfl)
  rw [lg_entry_eq]
  generalize (lg_sl ([.ref (ad 29)]) ++ List.replicate (1 - (lg_sl ([.ref (ad 29)])).length) Slot.unset).toArray = ls at hl ⊢
  have hl : lv_has ls 1 [(0, .ref (ad 29))] := hl
  unfold x_Stream_begin_29 at h
  refine lv_aload_n hx hb d_Stream_begin_0 rfl (lv_at hl 0 rfl) ?_
  refine xg_29_registers hx hb hts hin_AddressStream hown hK hP (hts _ k_275) (fun x9 h9 => u_same (hts _ k_276) x9 h9) d_Stream_begin_1 ?_
  refine lv_iconst (v := 0) hx hb d_Stream_begin_4 (by decide) ?_
  obtain ⟨r1, z1, hc1, h⟩ := obn_e h
  refine q_gov (va_runS (As := [.ref (ad 30), .int 0]) (rest := []) ⟨hx, hb, hml, hown, hts⟩ (c_x_Arrays_fill_30 l dC dI cI cZ ad z0 0 _ hc1 _) (va_cwS 2 hts (q_goodL _ (q_l3 k_463 k_464 k_66) k_465) rfl rfl rfl (by decide +kernel) ⟨Nat.le_of_ble_eq_true rfl, Nat.le_of_ble_eq_true rfl⟩) (q_preS qok hKK hP hD) rfl rfl hl.1 rfl (lv_room (Nat.le_of_ble_eq_true rfl)) d_Stream_begin_5 ⟨Nat.le_refl _, Nat.le_refl _⟩) hD hS hA (fun H locs hP hD hS => ?_)
  refine lv_aload_n hx hb d_Stream_begin_8 rfl (lv_at hl 0 rfl) ?_
  refine lv_iconst (v := 0) hx hb d_Stream_begin_9 (by decide) ?_
  obtain ⟨z2, e2, h⟩ := bnd_e h
  refine xp_29_left hx hb hts hin_AddressStream hown hK hP hD hS (hts _ k_260) (fun _ h9 => h9) d_Stream_begin_10 e2 (fun H locs hP hD hS => ?_)
  refine lv_aload_n hx hb d_Stream_begin_13 rfl (lv_at hl 0 rfl) ?_
  refine lv_iconst (v := 0) hx hb d_Stream_begin_14 (by decide) ?_
  obtain ⟨z3, e3, h⟩ := bnd_e h
  refine xp_29_at hx hb hts hin_AddressStream hown hK hP hD hS (hts _ k_286) (fun x9 h9 => u_same (hts _ k_287) x9 h9) d_Stream_begin_15 e3 (fun H locs hP hD hS => ?_)
  refine lv_aload_n hx hb d_Stream_begin_18 rfl (lv_at hl 0 rfl) ?_
  obtain ⟨r4, z4, hc4, h⟩ := obn_e h
  refine q_gov (va_runU (As := []) (rest := []) ⟨hx, hb, hml, hown, hts⟩ (c_x_Stream_goOver_29 l dC dI cI cZ ad z3 _ hc4 _) (va_cwU 0 hts (q_goodL _ (q_l5 k_466 k_1084 k_0 k_468 k_59) k_469) rfl rfl rfl rfl (by decide +kernel) ⟨Nat.le_of_ble_eq_true rfl, Nat.le_of_ble_eq_true rfl⟩) (q_preV qok hKK hP hD (va_recv (ci := 5) (q0 := 29) hK hP rfl rfl)) rfl rfl hl.1 rfl (lv_room (Nat.le_of_ble_eq_true rfl)) d_Stream_begin_19 ⟨Nat.le_refl _, Nat.le_refl _⟩) hD hS hA (fun H locs hP hD hS => ?_)
  exact q_vret hx hb hr hlocks h hP hD hS d_Stream_begin_22
def x_AddressStream_begin_29 (z0 : ST) : OR := gib 0 (bnd (stI z0 17 0) (fun z1 => obn (x_Stream_begin_29 z1) (fun r2 z2 => some (0, z2))))
set_option maxRecDepth 100000 in
set_option maxHeartbeats 4000000 in
theorem c_x_AddressStream_begin_29 (l : Launch) (dC : Nat → ClassId) (dI : Nat → Nat → Nat) (cI cZ : ClassId) (ad : Nat → Nat) (z0 : ST) (R : Int32 × ST) (h : x_AddressStream_begin_29 z0 = some R) : qMv l y_AddressStream_begin w_AddressStream_begin 2 43 (KX dC dI cI cZ) (dC, dI) q_cl (wX cI cZ ad) [.ref (ad 29)] z0 R := by
  intro sz
  refine Met.ofW (cc := b_AddressStream_begin) (maxL := 1) (ret := none) (by decide) rfl ?_
  intro p e s m args below meth c s₁ B hml hv
  obtain ⟨rfl, hsz, hP, hKK, hD0⟩ := hv
  have hx := B.exec
  have hb := B.bytes
  have hr := B.returns
  have hts : ∀ w ∈ q_big, w.before _ s = true := fun w h => atoms_spec (ws := w_AddressStream_begin) B.pre w (List.mem_cons_of_mem _ h)
  have hown : s.vm.findClass "SlippedStreams$AddressStream" = some m.cls := findClass_of_methodNamed B.named
  have hlocks := B.notSynchronized
  subst hsz
  have hD := hD0.self (sz := s.heap.size)
  generalize hAe : va_A (wX cI cZ ad z0) s.heap.size = A at hD ⊢
  have hA : ∀ q : Nat, s.heap.size ≤ q → A q := fun q h => by rw [← hAe]; exact Or.inr h
  have hS : va_S A s.heap s.heap [] := va_S.rf
  have hK := hKK.1
  have hl := lv_entry ([.ref (ad 29)]) (n := 1) (Nat.le_of_ble_eq_true rfl)
  rw [lg_entry_eq]
  generalize (lg_sl ([.ref (ad 29)]) ++ List.replicate (1 - (lg_sl ([.ref (ad 29)])).length) Slot.unset).toArray = ls at hl ⊢
  have hl : lv_has ls 1 [(0, .ref (ad 29))] := hl
  unfold x_AddressStream_begin_29 at h
  refine lv_aload_n hx hb d_AddressStream_begin_0 rfl (lv_at hl 0 rfl) ?_
  refine lv_iconst (v := 0) hx hb d_AddressStream_begin_1 (by decide) ?_
  obtain ⟨hv, h⟩ := gib_e h
  obtain ⟨z1, e1, h⟩ := bnd_e h
  refine xp_29_handed hx hb hts hin_AddressStream hown hK hP hD hS (hts _ k_253) (fun _ h9 => h9) hv d_AddressStream_begin_2 e1 (fun H locs hP hD hS => ?_)
  refine lv_aload_n hx hb d_AddressStream_begin_5 rfl (lv_at hl 0 rfl) ?_
  obtain ⟨r2, z2, hc2, h⟩ := obn_e h
  refine q_gov (va_runSU (As := []) (rest := []) (hK.1 5 _ rfl).2 ⟨hx, hb, hml, hown, hts⟩ (c_x_Stream_begin_29 l dC dI cI cZ ad z1 _ hc2 _) (va_cwSU 0 hts (q_goodL _ (q_l5 k_460 k_1083 k_309 k_461 k_59) k_462) rfl rfl rfl (by decide +kernel) ⟨Nat.le_of_ble_eq_true rfl, Nat.le_of_ble_eq_true rfl⟩) (q_preV qok hKK hP hD (va_recv (ci := 5) (q0 := 29) hK hP rfl rfl)) rfl rfl hl.1 rfl (lv_room (Nat.le_of_ble_eq_true rfl)) d_AddressStream_begin_6 ⟨Nat.le_refl _, Nat.le_refl _⟩) hD hS hA (fun H locs hP hD hS => ?_)
  exact q_vret hx hb hr hlocks h hP hD hS d_AddressStream_begin_9
def x_Written_empty_33 (z0 : ST) : OR := bnd (stI z0 20 0) (fun z1 => some (0, z1))
set_option maxRecDepth 100000 in
set_option maxHeartbeats 4000000 in
theorem c_x_Written_empty_33 (l : Launch) (dC : Nat → ClassId) (dI : Nat → Nat → Nat) (cI cZ : ClassId) (ad : Nat → Nat) (z0 : ST) (R : Int32 × ST) (h : x_Written_empty_33 z0 = some R) : qMv l y_Written_empty w_Written_empty 0 0 (KX dC dI cI cZ) (dC, dI) q_cl (wX cI cZ ad) [.ref (ad 33)] z0 R := by
  intro sz
  refine Met.ofW (cc := b_Written_empty) (maxL := 1) (ret := none) (by decide) rfl ?_
  intro p e s m args below meth c s₁ B hml hv
  obtain ⟨rfl, hsz, hP, hKK, hD0⟩ := hv
  have hx := B.exec
  have hb := B.bytes
  have hr := B.returns
  have hts : ∀ w ∈ q_big, w.before _ s = true := fun w h => atoms_spec (ws := w_Written_empty) B.pre w (List.mem_cons_of_mem _ h)
  have hown : s.vm.findClass "SlippedStreams$Written" = some m.cls := findClass_of_methodNamed B.named
  have hlocks := B.notSynchronized
  subst hsz
  have hD := hD0.self (sz := s.heap.size)
  generalize hAe : va_A (wX cI cZ ad z0) s.heap.size = A at hD ⊢
  have hA : ∀ q : Nat, s.heap.size ≤ q → A q := fun q h => by rw [← hAe]; exact Or.inr h
  have hS : va_S A s.heap s.heap [] := va_S.rf
  have hK := hKK.1
  have hl := lv_entry ([.ref (ad 33)]) (n := 1) (Nat.le_of_ble_eq_true rfl)
  rw [lg_entry_eq]
  generalize (lg_sl ([.ref (ad 33)]) ++ List.replicate (1 - (lg_sl ([.ref (ad 33)])).length) Slot.unset).toArray = ls at hl ⊢
  have hl : lv_has ls 1 [(0, .ref (ad 33))] := hl
  unfold x_Written_empty_33 at h
  refine lv_aload_n hx hb d_Written_empty_0 rfl (lv_at hl 0 rfl) ?_
  refine lv_iconst (v := 0) hx hb d_Written_empty_1 (by decide) ?_
  obtain ⟨z1, e1, h⟩ := bnd_e h
  refine xp_33_count hx hb hts hin_Written hown hK hP hD hS (hts _ k_323) (fun _ h9 => h9) d_Written_empty_2 e1 (fun H locs hP hD hS => ?_)
  exact q_vret hx hb hr hlocks h hP hD hS d_Written_empty_5
def x_Arrays_fill_32_g0 (k : Nat → ST → Int32 → Int32 → Int32 → OR) (z0 : ST) (y1 y2 y3 : Int32) : OR := k 1 z0 y1 0 8
def x_Arrays_fill_32_g5 (k : Nat → ST → Int32 → Int32 → Int32 → OR) (z0 : ST) (y1 y2 y3 : Int32) : OR := if y3 ≤ y2 then (some (0, z0)) else (gin y2 8 (bnd (stA z0 21 (upd (z0.2 21) y2.toNatClampNeg y1)) (fun z1 => k 1 z1 y1 (y2 + 1) y3)))
def x_Arrays_fill_32_g (k : Nat → ST → Int32 → Int32 → Int32 → OR) (n : Nat) : ST → Int32 → Int32 → Int32 → OR := match n with
  | 0 => x_Arrays_fill_32_g0 k
  | 1 => x_Arrays_fill_32_g5 k
  | _ => fun _ _ _ _ => none
def x_Arrays_fill_32_f : Nat → Nat → ST → Int32 → Int32 → Int32 → OR
  | 0 => fun _ _ _ _ _ => none
  | n + 1 => x_Arrays_fill_32_g (x_Arrays_fill_32_f n)
def x_Arrays_fill_32 (z0 : ST) (x1 : Int32) : OR := x_Arrays_fill_32_f 4000 0 z0 x1 0 0
set_option maxRecDepth 100000 in
set_option maxHeartbeats 4000000 in
theorem c_x_Arrays_fill_32 (l : Launch) (dC : Nat → ClassId) (dI : Nat → Nat → Nat) (cI cZ : ClassId) (ad : Nat → Nat) (z0 : ST) (x1 : Int32) (R : Int32 × ST) (h : x_Arrays_fill_32 z0 x1 = some R) : qMv l y_Arrays_fill w_Arrays_fill 0 0 (KX dC dI cI cZ) (dC, dI) q_cl (wX cI cZ ad) [.ref (ad 32), .int x1] z0 R := by
  intro sz
  refine Met.ofW (cc := b_Arrays_fill) (maxL := 4) (ret := none) (by decide) rfl ?_
  intro p e s m args below meth c s₁ B hml hv
  obtain ⟨rfl, hsz, hP, hKK, hD0⟩ := hv
  have hx := B.exec
  have hb := B.bytes
  have hr := B.returns
  have hts : ∀ w ∈ q_big, w.before _ s = true := fun w h => atoms_spec (ws := w_Arrays_fill) B.pre w (List.mem_cons_of_mem _ h)
  have hown : s.vm.findClass "java/util/Arrays" = some m.cls := findClass_of_methodNamed B.named
  have hlocks := B.notSynchronized
  subst hsz
  have hD := hD0.self (sz := s.heap.size)
  generalize hAe : va_A (wX cI cZ ad z0) s.heap.size = A at hD ⊢
  have hA : ∀ q : Nat, s.heap.size ≤ q → A q := fun q h => by rw [← hAe]; exact Or.inr h
  have hS : va_S A s.heap s.heap [] := va_S.rf
  have hK := hKK.1
  have hl := lv_entry ([.ref (ad 32), .int x1]) (n := 4) (Nat.le_of_ble_eq_true rfl)
  rw [lg_entry_eq]
  generalize (lg_sl ([.ref (ad 32), .int x1]) ++ List.replicate (4 - (lg_sl ([.ref (ad 32), .int x1])).length) Slot.unset).toArray = ls at hl ⊢
  have hl : lv_has ls 4 [(0, .ref (ad 32)), (1, .int x1)] := hl
  have key : ∀ n : Nat, (∀ (z0 : ST) (y1 y2 y3 : Int32) (H : Heap) (locs : List Loc) (ls : Array Slot), x_Arrays_fill_32_f n 0 z0 y1 y2 y3 = some R → va_P (dC, dI) q_cl (wX cI cZ ad z0) H → va_D A (wX cI cZ ad z0) → va_S A s.heap H locs → lv_has ls 4 [(0, .ref (ad 32)), (1, .int y1)] → qWv p l e w_Arrays_fill 0 0 s m [.ref (ad 32), .int x1] below meth c (dC, dI) q_cl (wX cI cZ ad) A R H locs (F0 m 0 ls [])) ∧ (∀ (z0 : ST) (y1 y2 y3 : Int32) (H : Heap) (locs : List Loc) (ls : Array Slot), x_Arrays_fill_32_f n 1 z0 y1 y2 y3 = some R → va_P (dC, dI) q_cl (wX cI cZ ad z0) H → va_D A (wX cI cZ ad z0) → va_S A s.heap H locs → lv_has ls 4 [(0, .ref (ad 32)), (1, .int y1), (2, .int y2), (3, .int y3)] → qWv p l e w_Arrays_fill 0 0 s m [.ref (ad 32), .int x1] below meth c (dC, dI) q_cl (wX cI cZ ad) A R H locs (F0 m 5 ls [])) := by
    intro n
    induction n with
    | zero => exact ⟨fun z0 y1 y2 y3 H locs ls h hP hD hS hl => (by cases h), fun z0 y1 y2 y3 H locs ls h hP hD hS hl => (by cases h)⟩
    | succ n ih =>
      obtain ⟨jp_0, jp_5⟩ := ih
      refine ⟨?_, ?_⟩
      · intro z0 y1 y2 y3 H locs ls h hP hD hS hl
        replace h : x_Arrays_fill_32_g0 (x_Arrays_fill_32_f n) z0 y1 y2 y3 = some R := h
        unfold x_Arrays_fill_32_g0 at h
        refine lv_iconst (v := 0) hx hb d_Arrays_fill_0 (by decide) ?_
        refine lv_istore_n (lv' := [(2, .int 0), (0, .ref (ad 32)), (1, .int y1)]) hx hb d_Arrays_fill_1 rfl hl (by decide) rfl (fun ls hl => ?_)
        refine lv_aload_n hx hb d_Arrays_fill_2 rfl (lv_at hl 1 rfl) ?_
        refine va_alen (v := 8) hx hb hK hP 32 0 rfl rfl rfl d_Arrays_fill_3 ?_
        refine lv_istore_n (lv' := [(3, .int 8), (2, .int 0), (0, .ref (ad 32)), (1, .int y1)]) hx hb d_Arrays_fill_4 rfl hl (by decide) rfl (fun ls hl => ?_)
        exact jp_5 z0 y1 0 8 _ _ _ h hP hD hS (lv_sub hl [2, 3, 1, 0] rfl)
      · intro z0 y1 y2 y3 H locs ls h hP hD hS hl
        replace h : x_Arrays_fill_32_g5 (x_Arrays_fill_32_f n) z0 y1 y2 y3 = some R := h
        unfold x_Arrays_fill_32_g5 at h
        refine lv_iload_n hx hb d_Arrays_fill_5 rfl (lv_at hl 2 rfl) ?_
        refine lv_iload_n hx hb d_Arrays_fill_6 rfl (lv_at hl 3 rfl) ?_
        refine lv_icmp_ge (tgt := 20) hx hb d_Arrays_fill_7 (by decide) (fun hc => ?_) (fun hc => ?_)
        · replace h := if_t hc h
          exact q_vret hx hb hr hlocks h hP hD hS d_Arrays_fill_20
        · replace h := if_f hc h
          refine lv_aload_n hx hb d_Arrays_fill_10 rfl (lv_at hl 0 rfl) ?_
          refine lv_iload_n hx hb d_Arrays_fill_11 rfl (lv_at hl 2 rfl) ?_
          refine lv_iload_n hx hb d_Arrays_fill_12 rfl (lv_at hl 1 rfl) ?_
          obtain ⟨hi, h⟩ := gin_e h
          obtain ⟨z1, e1, h⟩ := bnd_e h
          refine xs_21 hx hb hK hP hD hS hi d_Arrays_fill_13 e1 (fun H locs hP hD hS => ?_)
          refine lv_iinc (k := 2) (v := y2 + 1) (lv' := [(2, .int (y2 + 1)), (0, .ref (ad 32)), (1, .int y1), (3, .int y3)]) hx hb d_Arrays_fill_14 hl rfl rfl (by decide) rfl (fun ls hl => ?_)
          refine lv_goto (tgt := 5) hx hb d_Arrays_fill_17 (by decide) ?_
          exact jp_5 z1 y1 (y2 + 1) y3 _ _ _ h hP hD hS (lv_sub hl [1, 2, 0, 3] rfl)
  exact (key 4000).1 z0 x1 0 0 _ _ _ h hP hD hS (lv_sub hl [0, 1] rfl)
def x_Stream_goOver_31_g0 (k : Nat → ST → OR) (z0 : ST) : OR := if (z0.1 1) ≤ (z0.1 18) then (some (0, z0)) else (gin (z0.1 18) 24 (if (z0.2 9 (z0.1 18).toNatClampNeg) = 0 then (some (0, z0)) else (bnd (stI z0 18 ((z0.1 18) + 1)) (fun z1 => bnd (stI z1 19 ((z1.1 19) + 1)) (fun z2 => k 0 z2)))))
def x_Stream_goOver_31_g (k : Nat → ST → OR) (n : Nat) : ST → OR := match n with
  | 0 => x_Stream_goOver_31_g0 k
  | _ => fun _ => none
def x_Stream_goOver_31_f : Nat → Nat → ST → OR
  | 0 => fun _ _ => none
  | n + 1 => x_Stream_goOver_31_g (x_Stream_goOver_31_f n)
def x_Stream_goOver_31 (z0 : ST) : OR := x_Stream_goOver_31_f 4000 0 z0
set_option maxRecDepth 100000 in
set_option maxHeartbeats 4000000 in
theorem c_x_Stream_goOver_31 (l : Launch) (dC : Nat → ClassId) (dI : Nat → Nat → Nat) (cI cZ : ClassId) (ad : Nat → Nat) (z0 : ST) (R : Int32 × ST) (h : x_Stream_goOver_31 z0 = some R) : qMv l y_Stream_goOver w_Stream_goOver 0 0 (KX dC dI cI cZ) (dC, dI) q_cl (wX cI cZ ad) [.ref (ad 31)] z0 R := by
  intro sz
  refine Met.ofW (cc := b_Stream_goOver) (maxL := 1) (ret := none) (by decide) rfl ?_
  intro p e s m args below meth c s₁ B hml hv
  obtain ⟨rfl, hsz, hP, hKK, hD0⟩ := hv
  have hx := B.exec
  have hb := B.bytes
  have hr := B.returns
  have hts : ∀ w ∈ q_big, w.before _ s = true := fun w h => atoms_spec (ws := w_Stream_goOver) B.pre w (List.mem_cons_of_mem _ h)
  have hown : s.vm.findClass "SlippedStreams$Stream" = some m.cls := findClass_of_methodNamed B.named
  have hlocks := B.notSynchronized
  subst hsz
  have hD := hD0.self (sz := s.heap.size)
  generalize hAe : va_A (wX cI cZ ad z0) s.heap.size = A at hD ⊢
  have hA : ∀ q : Nat, s.heap.size ≤ q → A q := fun q h => by rw [← hAe]; exact Or.inr h
  have hS : va_S A s.heap s.heap [] := va_S.rf
  have hK := hKK.1
  have hl := lv_entry ([.ref (ad 31)]) (n := 1) (Nat.le_of_ble_eq_true rfl)
  rw [lg_entry_eq]
  generalize (lg_sl ([.ref (ad 31)]) ++ List.replicate (1 - (lg_sl ([.ref (ad 31)])).length) Slot.unset).toArray = ls at hl ⊢
  have hl : lv_has ls 1 [(0, .ref (ad 31))] := hl
  have key : ∀ n : Nat, (∀ (z0 : ST) (H : Heap) (locs : List Loc) (ls : Array Slot), x_Stream_goOver_31_f n 0 z0 = some R → va_P (dC, dI) q_cl (wX cI cZ ad z0) H → va_D A (wX cI cZ ad z0) → va_S A s.heap H locs → lv_has ls 1 [(0, .ref (ad 31))] → qWv p l e w_Stream_goOver 0 0 s m [.ref (ad 31)] below meth c (dC, dI) q_cl (wX cI cZ ad) A R H locs (F0 m 0 ls [])) ∧ True := by
    intro n
    induction n with
    | zero => exact ⟨fun z0 H locs ls h hP hD hS hl => (by cases h), trivial⟩
    | succ n ih =>
      obtain ⟨jp_0, -⟩ := ih
      refine ⟨?_, trivial⟩
      · intro z0 H locs ls h hP hD hS hl
        replace h : x_Stream_goOver_31_g0 (x_Stream_goOver_31_f n) z0 = some R := h
        unfold x_Stream_goOver_31_g0 at h
        refine lv_aload_n hx hb d_Stream_goOver_0 rfl (lv_at hl 0 rfl) ?_
        refine xg_31_at hx hb hts hin_ValueStream hown hK hP (hts _ k_286) (fun x9 h9 => u_same (hts _ k_287) x9 h9) d_Stream_goOver_1 ?_
        refine lv_aload_n hx hb d_Stream_goOver_4 rfl (lv_at hl 0 rfl) ?_
        refine xg_31_program hx hb hts hin_ValueStream hown hK hP (hts _ k_272) (fun x9 h9 => u_same (hts _ k_273) x9 h9) d_Stream_goOver_5 ?_
        refine xg_1_size hx hb hts hin_Program hown hK hP (hts _ k_117) (fun _ h9 => h9) d_Stream_goOver_8 ?_
        refine lv_icmp_ge (tgt := 49) hx hb d_Stream_goOver_11 (by decide) (fun hc => ?_) (fun hc => ?_)
        · replace h := if_t hc h
          exact q_vret hx hb hr hlocks h hP hD hS d_Stream_goOver_49
        · replace h := if_f hc h
          refine lv_aload_n hx hb d_Stream_goOver_14 rfl (lv_at hl 0 rfl) ?_
          refine xg_31_nothings hx hb hts hin_ValueStream hown hK hP (hts _ k_259) (fun _ h9 => h9) d_Stream_goOver_15 ?_
          refine lv_aload_n hx hb d_Stream_goOver_18 rfl (lv_at hl 0 rfl) ?_
          refine xg_31_at hx hb hts hin_ValueStream hown hK hP (hts _ k_286) (fun x9 h9 => u_same (hts _ k_287) x9 h9) d_Stream_goOver_19 ?_
          obtain ⟨hi, h⟩ := gin_e h
          refine xl_9 hx hb hK hP hi d_Stream_goOver_22 ?_
          refine lv_if_eq (tgt := 49) hx hb d_Stream_goOver_23 (by decide) (fun hc => ?_) (fun hc => ?_)
          · replace h := if_t hc h
            exact q_vret hx hb hr hlocks h hP hD hS d_Stream_goOver_49
          · replace h := if_f hc h
            refine lv_aload_n hx hb d_Stream_goOver_26 rfl (lv_at hl 0 rfl) ?_
            refine lv_dup hx hb d_Stream_goOver_27 rfl ?_
            refine xg_31_at hx hb hts hin_ValueStream hown hK hP (hts _ k_286) (fun x9 h9 => u_same (hts _ k_287) x9 h9) d_Stream_goOver_28 ?_
            refine lv_iconst (v := 1) hx hb d_Stream_goOver_31 (by decide) ?_
            refine lv_iadd hx hb d_Stream_goOver_32 ?_
            obtain ⟨z1, e1, h⟩ := bnd_e h
            refine xp_31_at hx hb hts hin_ValueStream hown hK hP hD hS (hts _ k_286) (fun x9 h9 => u_same (hts _ k_287) x9 h9) d_Stream_goOver_33 e1 (fun H locs hP hD hS => ?_)
            refine lv_aload_n hx hb d_Stream_goOver_36 rfl (lv_at hl 0 rfl) ?_
            refine lv_dup hx hb d_Stream_goOver_37 rfl ?_
            refine xg_31_left hx hb hts hin_ValueStream hown hK hP (hts _ k_260) (fun _ h9 => h9) d_Stream_goOver_38 ?_
            refine lv_iconst (v := 1) hx hb d_Stream_goOver_41 (by decide) ?_
            refine lv_iadd hx hb d_Stream_goOver_42 ?_
            obtain ⟨z2, e2, h⟩ := bnd_e h
            refine xp_31_left hx hb hts hin_ValueStream hown hK hP hD hS (hts _ k_260) (fun _ h9 => h9) d_Stream_goOver_43 e2 (fun H locs hP hD hS => ?_)
            refine lv_goto (tgt := 0) hx hb d_Stream_goOver_46 (by decide) ?_
            exact jp_0 z2 _ _ _ h hP hD hS (lv_sub hl [0] rfl)
  exact (key 4000).1 z0 _ _ _ h hP hD hS (lv_sub hl [0] rfl)
def x_Stream_begin_31 (z0 : ST) : OR := obn (x_Arrays_fill_32 z0 0) (fun r1 z1 => bnd (stI z1 19 0) (fun z2 => bnd (stI z2 18 0) (fun z3 => obn (x_Stream_goOver_31 z3) (fun r4 z4 => some (0, z4)))))
set_option maxRecDepth 100000 in
set_option maxHeartbeats 4000000 in
theorem c_x_Stream_begin_31 (l : Launch) (dC : Nat → ClassId) (dI : Nat → Nat → Nat) (cI cZ : ClassId) (ad : Nat → Nat) (z0 : ST) (R : Int32 × ST) (h : x_Stream_begin_31 z0 = some R) : qMv l y_Stream_begin w_Stream_begin 1 23 (KX dC dI cI cZ) (dC, dI) q_cl (wX cI cZ ad) [.ref (ad 31)] z0 R := by
  intro sz
  refine Met.ofW (cc := b_Stream_begin) (maxL := 1) (ret := none) (by decide) rfl ?_
  intro p e s m args below meth c s₁ B hml hv
  obtain ⟨rfl, hsz, hP, hKK, hD0⟩ := hv
  have hx := B.exec
  have hb := B.bytes
  have hr := B.returns
  have hts : ∀ w ∈ q_big, w.before _ s = true := fun w h => atoms_spec (ws := w_Stream_begin) B.pre w (List.mem_cons_of_mem _ h)
  have hown : s.vm.findClass "SlippedStreams$Stream" = some m.cls := findClass_of_methodNamed B.named
  have hlocks := B.notSynchronized
  subst hsz
  have hD := hD0.self (sz := s.heap.size)
  generalize hAe : va_A (wX cI cZ ad z0) s.heap.size = A at hD ⊢
  have hA : ∀ q : Nat, s.heap.size ≤ q → A q := fun q h => by rw [← hAe]; exact Or.inr h
  have hS : va_S A s.heap s.heap [] := va_S.rf
  have hK := hKK.1
  have hl := lv_entry ([.ref (ad 31)]) (n := 1) (Nat.le_of_ble_eq_true rfl)
  rw [lg_entry_eq]
  generalize (lg_sl ([.ref (ad 31)]) ++ List.replicate (1 - (lg_sl ([.ref (ad 31)])).length) Slot.unset).toArray = ls at hl ⊢
  have hl : lv_has ls 1 [(0, .ref (ad 31))] := hl
  unfold x_Stream_begin_31 at h
  refine lv_aload_n hx hb d_Stream_begin_0 rfl (lv_at hl 0 rfl) ?_
  refine xg_31_registers hx hb hts hin_ValueStream hown hK hP (hts _ k_275) (fun x9 h9 => u_same (hts _ k_276) x9 h9) d_Stream_begin_1 ?_
  refine lv_iconst (v := 0) hx hb d_Stream_begin_4 (by decide) ?_
  obtain ⟨r1, z1, hc1, h⟩ := obn_e h
  refine q_gov (va_runS (As := [.ref (ad 32), .int 0]) (rest := []) ⟨hx, hb, hml, hown, hts⟩ (c_x_Arrays_fill_32 l dC dI cI cZ ad z0 0 _ hc1 _) (va_cwS 2 hts (q_goodL _ (q_l3 k_463 k_464 k_66) k_465) rfl rfl rfl (by decide +kernel) ⟨Nat.le_of_ble_eq_true rfl, Nat.le_of_ble_eq_true rfl⟩) (q_preS qok hKK hP hD) rfl rfl hl.1 rfl (lv_room (Nat.le_of_ble_eq_true rfl)) d_Stream_begin_5 ⟨Nat.le_refl _, Nat.le_refl _⟩) hD hS hA (fun H locs hP hD hS => ?_)
  refine lv_aload_n hx hb d_Stream_begin_8 rfl (lv_at hl 0 rfl) ?_
  refine lv_iconst (v := 0) hx hb d_Stream_begin_9 (by decide) ?_
  obtain ⟨z2, e2, h⟩ := bnd_e h
  refine xp_31_left hx hb hts hin_ValueStream hown hK hP hD hS (hts _ k_260) (fun _ h9 => h9) d_Stream_begin_10 e2 (fun H locs hP hD hS => ?_)
  refine lv_aload_n hx hb d_Stream_begin_13 rfl (lv_at hl 0 rfl) ?_
  refine lv_iconst (v := 0) hx hb d_Stream_begin_14 (by decide) ?_
  obtain ⟨z3, e3, h⟩ := bnd_e h
  refine xp_31_at hx hb hts hin_ValueStream hown hK hP hD hS (hts _ k_286) (fun x9 h9 => u_same (hts _ k_287) x9 h9) d_Stream_begin_15 e3 (fun H locs hP hD hS => ?_)
  refine lv_aload_n hx hb d_Stream_begin_18 rfl (lv_at hl 0 rfl) ?_
  obtain ⟨r4, z4, hc4, h⟩ := obn_e h
  refine q_gov (va_runU (As := []) (rest := []) ⟨hx, hb, hml, hown, hts⟩ (c_x_Stream_goOver_31 l dC dI cI cZ ad z3 _ hc4 _) (va_cwU 0 hts (q_goodL _ (q_l5 k_466 k_1084 k_1 k_468 k_59) k_469) rfl rfl rfl rfl (by decide +kernel) ⟨Nat.le_of_ble_eq_true rfl, Nat.le_of_ble_eq_true rfl⟩) (q_preV qok hKK hP hD (va_recv (ci := 6) (q0 := 31) hK hP rfl rfl)) rfl rfl hl.1 rfl (lv_room (Nat.le_of_ble_eq_true rfl)) d_Stream_begin_19 ⟨Nat.le_refl _, Nat.le_refl _⟩) hD hS hA (fun H locs hP hD hS => ?_)
  exact q_vret hx hb hr hlocks h hP hD hS d_Stream_begin_22
def x_ValueStream_begin_31 (z0 : ST) : OR := obn (x_Written_empty_33 z0) (fun r1 z1 => obn (x_Stream_begin_31 z1) (fun r2 z2 => some (0, z2)))
set_option maxRecDepth 100000 in
set_option maxHeartbeats 4000000 in
theorem c_x_ValueStream_begin_31 (l : Launch) (dC : Nat → ClassId) (dI : Nat → Nat → Nat) (cI cZ : ClassId) (ad : Nat → Nat) (z0 : ST) (R : Int32 × ST) (h : x_ValueStream_begin_31 z0 = some R) : qMv l y_ValueStream_begin w_ValueStream_begin 2 43 (KX dC dI cI cZ) (dC, dI) q_cl (wX cI cZ ad) [.ref (ad 31)] z0 R := by
  intro sz
  refine Met.ofW (cc := b_ValueStream_begin) (maxL := 1) (ret := none) (by decide) rfl ?_
  intro p e s m args below meth c s₁ B hml hv
  obtain ⟨rfl, hsz, hP, hKK, hD0⟩ := hv
  have hx := B.exec
  have hb := B.bytes
  have hr := B.returns
  have hts : ∀ w ∈ q_big, w.before _ s = true := fun w h => atoms_spec (ws := w_ValueStream_begin) B.pre w (List.mem_cons_of_mem _ h)
  have hown : s.vm.findClass "SlippedStreams$ValueStream" = some m.cls := findClass_of_methodNamed B.named
  have hlocks := B.notSynchronized
  subst hsz
  have hD := hD0.self (sz := s.heap.size)
  generalize hAe : va_A (wX cI cZ ad z0) s.heap.size = A at hD ⊢
  have hA : ∀ q : Nat, s.heap.size ≤ q → A q := fun q h => by rw [← hAe]; exact Or.inr h
  have hS : va_S A s.heap s.heap [] := va_S.rf
  have hK := hKK.1
  have hl := lv_entry ([.ref (ad 31)]) (n := 1) (Nat.le_of_ble_eq_true rfl)
  rw [lg_entry_eq]
  generalize (lg_sl ([.ref (ad 31)]) ++ List.replicate (1 - (lg_sl ([.ref (ad 31)])).length) Slot.unset).toArray = ls at hl ⊢
  have hl : lv_has ls 1 [(0, .ref (ad 31))] := hl
  unfold x_ValueStream_begin_31 at h
  refine lv_aload_n hx hb d_ValueStream_begin_0 rfl (lv_at hl 0 rfl) ?_
  refine xg_31_written hx hb hts hin_ValueStream hown hK hP (hts _ k_330) (fun _ h9 => h9) d_ValueStream_begin_1 ?_
  obtain ⟨r1, z1, hc1, h⟩ := obn_e h
  refine q_gov (va_runV (As := []) (rest := []) ⟨hx, hb, hml, hown, hts⟩ (c_x_Written_empty_33 l dC dI cI cZ ad z0 _ hc1 _) (cwV 0 hts (q_goodL _ (q_l4 k_474 k_475 k_476 k_62) k_477) rfl rfl rfl (by decide +kernel) ⟨Nat.le_of_ble_eq_true rfl, Nat.le_of_ble_eq_true rfl⟩) (q_preV qok hKK hP hD (va_recv (ci := 7) (q0 := 33) hK hP rfl rfl)) rfl rfl hl.1 rfl (lv_room (Nat.le_of_ble_eq_true rfl)) d_ValueStream_begin_4 ⟨Nat.le_refl _, Nat.le_refl _⟩) hD hS hA (fun H locs hP hD hS => ?_)
  refine lv_aload_n hx hb d_ValueStream_begin_7 rfl (lv_at hl 0 rfl) ?_
  obtain ⟨r2, z2, hc2, h⟩ := obn_e h
  refine q_gov (va_runSU (As := []) (rest := []) (hK.1 6 _ rfl).2 ⟨hx, hb, hml, hown, hts⟩ (c_x_Stream_begin_31 l dC dI cI cZ ad z1 _ hc2 _) (va_cwSU 0 hts (q_goodL _ (q_l5 k_478 k_1083 k_340 k_461 k_59) k_462) rfl rfl rfl (by decide +kernel) ⟨Nat.le_of_ble_eq_true rfl, Nat.le_of_ble_eq_true rfl⟩) (q_preV qok hKK hP hD (va_recv (ci := 6) (q0 := 31) hK hP rfl rfl)) rfl rfl hl.1 rfl (lv_room (Nat.le_of_ble_eq_true rfl)) d_ValueStream_begin_8 ⟨Nat.le_refl _, Nat.le_refl _⟩) hD hS hA (fun H locs hP hD hS => ?_)
  exact q_vret hx hb hr hlocks h hP hD hS d_ValueStream_begin_11
def x_Arrays_fill_36_g0 (k : Nat → ST → Int32 → Int32 → Int32 → OR) (z0 : ST) (y1 y2 y3 : Int32) : OR := k 1 z0 y1 0 8
def x_Arrays_fill_36_g5 (k : Nat → ST → Int32 → Int32 → Int32 → OR) (z0 : ST) (y1 y2 y3 : Int32) : OR := if y3 ≤ y2 then (some (0, z0)) else (gin y2 8 (bnd (stA z0 23 (upd (z0.2 23) y2.toNatClampNeg y1)) (fun z1 => k 1 z1 y1 (y2 + 1) y3)))
def x_Arrays_fill_36_g (k : Nat → ST → Int32 → Int32 → Int32 → OR) (n : Nat) : ST → Int32 → Int32 → Int32 → OR := match n with
  | 0 => x_Arrays_fill_36_g0 k
  | 1 => x_Arrays_fill_36_g5 k
  | _ => fun _ _ _ _ => none
def x_Arrays_fill_36_f : Nat → Nat → ST → Int32 → Int32 → Int32 → OR
  | 0 => fun _ _ _ _ _ => none
  | n + 1 => x_Arrays_fill_36_g (x_Arrays_fill_36_f n)
def x_Arrays_fill_36 (z0 : ST) (x1 : Int32) : OR := x_Arrays_fill_36_f 4000 0 z0 x1 0 0
set_option maxRecDepth 100000 in
set_option maxHeartbeats 4000000 in
theorem c_x_Arrays_fill_36 (l : Launch) (dC : Nat → ClassId) (dI : Nat → Nat → Nat) (cI cZ : ClassId) (ad : Nat → Nat) (z0 : ST) (x1 : Int32) (R : Int32 × ST) (h : x_Arrays_fill_36 z0 x1 = some R) : qMv l y_Arrays_fill w_Arrays_fill 0 0 (KX dC dI cI cZ) (dC, dI) q_cl (wX cI cZ ad) [.ref (ad 36), .int x1] z0 R := by
  intro sz
  refine Met.ofW (cc := b_Arrays_fill) (maxL := 4) (ret := none) (by decide) rfl ?_
  intro p e s m args below meth c s₁ B hml hv
  obtain ⟨rfl, hsz, hP, hKK, hD0⟩ := hv
  have hx := B.exec
  have hb := B.bytes
  have hr := B.returns
  have hts : ∀ w ∈ q_big, w.before _ s = true := fun w h => atoms_spec (ws := w_Arrays_fill) B.pre w (List.mem_cons_of_mem _ h)
  have hown : s.vm.findClass "java/util/Arrays" = some m.cls := findClass_of_methodNamed B.named
  have hlocks := B.notSynchronized
  subst hsz
  have hD := hD0.self (sz := s.heap.size)
  generalize hAe : va_A (wX cI cZ ad z0) s.heap.size = A at hD ⊢
  have hA : ∀ q : Nat, s.heap.size ≤ q → A q := fun q h => by rw [← hAe]; exact Or.inr h
  have hS : va_S A s.heap s.heap [] := va_S.rf
  have hK := hKK.1
  have hl := lv_entry ([.ref (ad 36), .int x1]) (n := 4) (Nat.le_of_ble_eq_true rfl)
  rw [lg_entry_eq]
  generalize (lg_sl ([.ref (ad 36), .int x1]) ++ List.replicate (4 - (lg_sl ([.ref (ad 36), .int x1])).length) Slot.unset).toArray = ls at hl ⊢
  have hl : lv_has ls 4 [(0, .ref (ad 36)), (1, .int x1)] := hl
  have key : ∀ n : Nat, (∀ (z0 : ST) (y1 y2 y3 : Int32) (H : Heap) (locs : List Loc) (ls : Array Slot), x_Arrays_fill_36_f n 0 z0 y1 y2 y3 = some R → va_P (dC, dI) q_cl (wX cI cZ ad z0) H → va_D A (wX cI cZ ad z0) → va_S A s.heap H locs → lv_has ls 4 [(0, .ref (ad 36)), (1, .int y1)] → qWv p l e w_Arrays_fill 0 0 s m [.ref (ad 36), .int x1] below meth c (dC, dI) q_cl (wX cI cZ ad) A R H locs (F0 m 0 ls [])) ∧ (∀ (z0 : ST) (y1 y2 y3 : Int32) (H : Heap) (locs : List Loc) (ls : Array Slot), x_Arrays_fill_36_f n 1 z0 y1 y2 y3 = some R → va_P (dC, dI) q_cl (wX cI cZ ad z0) H → va_D A (wX cI cZ ad z0) → va_S A s.heap H locs → lv_has ls 4 [(0, .ref (ad 36)), (1, .int y1), (2, .int y2), (3, .int y3)] → qWv p l e w_Arrays_fill 0 0 s m [.ref (ad 36), .int x1] below meth c (dC, dI) q_cl (wX cI cZ ad) A R H locs (F0 m 5 ls [])) := by
    intro n
    induction n with
    | zero => exact ⟨fun z0 y1 y2 y3 H locs ls h hP hD hS hl => (by cases h), fun z0 y1 y2 y3 H locs ls h hP hD hS hl => (by cases h)⟩
    | succ n ih =>
      obtain ⟨jp_0, jp_5⟩ := ih
      refine ⟨?_, ?_⟩
      · intro z0 y1 y2 y3 H locs ls h hP hD hS hl
        replace h : x_Arrays_fill_36_g0 (x_Arrays_fill_36_f n) z0 y1 y2 y3 = some R := h
        unfold x_Arrays_fill_36_g0 at h
        refine lv_iconst (v := 0) hx hb d_Arrays_fill_0 (by decide) ?_
        refine lv_istore_n (lv' := [(2, .int 0), (0, .ref (ad 36)), (1, .int y1)]) hx hb d_Arrays_fill_1 rfl hl (by decide) rfl (fun ls hl => ?_)
        refine lv_aload_n hx hb d_Arrays_fill_2 rfl (lv_at hl 1 rfl) ?_
        refine va_alen (v := 8) hx hb hK hP 36 0 rfl rfl rfl d_Arrays_fill_3 ?_
        refine lv_istore_n (lv' := [(3, .int 8), (2, .int 0), (0, .ref (ad 36)), (1, .int y1)]) hx hb d_Arrays_fill_4 rfl hl (by decide) rfl (fun ls hl => ?_)
        exact jp_5 z0 y1 0 8 _ _ _ h hP hD hS (lv_sub hl [2, 3, 1, 0] rfl)
      · intro z0 y1 y2 y3 H locs ls h hP hD hS hl
        replace h : x_Arrays_fill_36_g5 (x_Arrays_fill_36_f n) z0 y1 y2 y3 = some R := h
        unfold x_Arrays_fill_36_g5 at h
        refine lv_iload_n hx hb d_Arrays_fill_5 rfl (lv_at hl 2 rfl) ?_
        refine lv_iload_n hx hb d_Arrays_fill_6 rfl (lv_at hl 3 rfl) ?_
        refine lv_icmp_ge (tgt := 20) hx hb d_Arrays_fill_7 (by decide) (fun hc => ?_) (fun hc => ?_)
        · replace h := if_t hc h
          exact q_vret hx hb hr hlocks h hP hD hS d_Arrays_fill_20
        · replace h := if_f hc h
          refine lv_aload_n hx hb d_Arrays_fill_10 rfl (lv_at hl 0 rfl) ?_
          refine lv_iload_n hx hb d_Arrays_fill_11 rfl (lv_at hl 2 rfl) ?_
          refine lv_iload_n hx hb d_Arrays_fill_12 rfl (lv_at hl 1 rfl) ?_
          obtain ⟨hi, h⟩ := gin_e h
          obtain ⟨z1, e1, h⟩ := bnd_e h
          refine xs_23 hx hb hK hP hD hS hi d_Arrays_fill_13 e1 (fun H locs hP hD hS => ?_)
          refine lv_iinc (k := 2) (v := y2 + 1) (lv' := [(2, .int (y2 + 1)), (0, .ref (ad 36)), (1, .int y1), (3, .int y3)]) hx hb d_Arrays_fill_14 hl rfl rfl (by decide) rfl (fun ls hl => ?_)
          refine lv_goto (tgt := 5) hx hb d_Arrays_fill_17 (by decide) ?_
          exact jp_5 z1 y1 (y2 + 1) y3 _ _ _ h hP hD hS (lv_sub hl [1, 2, 0, 3] rfl)
  exact (key 4000).1 z0 x1 0 0 _ _ _ h hP hD hS (lv_sub hl [0, 1] rfl)
