def m_fill (z0 : ST) (x1 x2 : Int32) : OR := bnd (stI z0 1 x1) (fun z1 => bnd (stI z1 2 x2) (fun z2 => obn (m_reset z2) (fun r3 z3 => some (0, z3))))
set_option maxRecDepth 100000 in
set_option maxHeartbeats 4000000 in
theorem c_m_fill (l : Launch) (dC : Nat → ClassId) (dI : Nat → Nat → Nat) (cI cZ : ClassId) (ad : Nat → Nat) (z0 : ST) (x1 x2 : Int32) (R : Int32 × ST) (h : m_fill z0 x1 x2 = some R) : qMv l y_SlippedStreamsModel_fill w_SlippedStreamsModel_fill 7 155 (KX dC dI cI cZ) (dC, dI) q_cl (wM cI cZ ad) [.ref (ad 0), .int x1, .int x2] z0 R := by
  intro sz
  refine Met.ofW (cc := b_SlippedStreamsModel_fill) (maxL := 3) (ret := none) (by decide) rfl ?_
  intro p e s m args below meth c s₁ B hml hv
  obtain ⟨rfl, hsz, hP, hKK, hD0⟩ := hv
  have hx := B.exec
  have hb := B.bytes
  have hr := B.returns
  have hts : ∀ w ∈ q_big, w.before _ s = true := fun w h => atoms_spec (ws := w_SlippedStreamsModel_fill) B.pre w (List.mem_cons_of_mem _ h)
  have hown : s.vm.findClass "SlippedStreamsModel" = some m.cls := findClass_of_methodNamed B.named
  have hlocks := B.notSynchronized
  subst hsz
  have hD := hD0.self (sz := s.heap.size)
  generalize hAe : va_A (wM cI cZ ad z0) s.heap.size = A at hD ⊢
  have hA : ∀ q : Nat, s.heap.size ≤ q → A q := fun q h => by rw [← hAe]; exact Or.inr h
  have hS : va_S A s.heap s.heap [] := va_S.rf
  have hK := hKK.1
  have hl := lv_entry ([.ref (ad 0), .int x1, .int x2]) (n := 3) (Nat.le_of_ble_eq_true rfl)
  rw [lg_entry_eq]
  generalize (lg_sl ([.ref (ad 0), .int x1, .int x2]) ++ List.replicate (3 - (lg_sl ([.ref (ad 0), .int x1, .int x2])).length) Slot.unset).toArray = ls at hl ⊢
  have hl : lv_has ls 3 [(0, .ref (ad 0)), (1, .int x1), (2, .int x2)] := hl
  unfold m_fill at h
  refine lv_aload_n hx hb d_SlippedStreamsModel_fill_0 rfl (lv_at hl 0 rfl) ?_
  refine lv_iload_n hx hb d_SlippedStreamsModel_fill_1 rfl (lv_at hl 1 rfl) ?_
  obtain ⟨z1, e1, h⟩ := bnd_e h
  refine mp_0_first hx hb hts hin_SlippedStreamsModel hown hK hP hD hS (hts _ k_818) (fun _ h9 => h9) d_SlippedStreamsModel_fill_2 e1 (fun H locs hP hD hS => ?_)
  refine lv_aload_n hx hb d_SlippedStreamsModel_fill_5 rfl (lv_at hl 0 rfl) ?_
  refine lv_iload_n hx hb d_SlippedStreamsModel_fill_6 rfl (lv_at hl 2 rfl) ?_
  obtain ⟨z2, e2, h⟩ := bnd_e h
  refine mp_0_step hx hb hts hin_SlippedStreamsModel hown hK hP hD hS (hts _ k_819) (fun _ h9 => h9) d_SlippedStreamsModel_fill_7 e2 (fun H locs hP hD hS => ?_)
  refine lv_aload_n hx hb d_SlippedStreamsModel_fill_10 rfl (lv_at hl 0 rfl) ?_
  obtain ⟨r3, z3, hc3, h⟩ := obn_e h
  refine q_gov (va_runV (As := []) (rest := []) ⟨hx, hb, hml, hown, hts⟩ (c_m_reset l dC dI cI cZ ad z2 _ hc3 _) (cwV 0 hts (q_goodL _ (q_l4 k_909 k_910 k_911 k_64) k_912) rfl rfl rfl (by decide +kernel) ⟨Nat.le_of_ble_eq_true rfl, Nat.le_of_ble_eq_true rfl⟩) (q_preV qok hKK hP hD (va_recv (ci := 9) (q0 := 0) hK hP rfl rfl)) rfl rfl hl.1 rfl (lv_room (Nat.le_of_ble_eq_true rfl)) d_SlippedStreamsModel_fill_11 ⟨Nat.le_refl _, Nat.le_refl _⟩) hD hS hA (fun H locs hP hD hS => ?_)
  exact q_vret hx hb hr hlocks h hP hD hS d_SlippedStreamsModel_fill_14
def m_clear (z0 : ST) : OR := bnd (stI z0 0 0) (fun z1 => obn (m_slice z1) (fun r2 z2 => obn (m_reset z2) (fun r3 z3 => some (z0.1 0, z3))))
set_option maxRecDepth 100000 in
set_option maxHeartbeats 4000000 in
theorem c_m_clear (l : Launch) (dC : Nat → ClassId) (dI : Nat → Nat → Nat) (cI cZ : ClassId) (ad : Nat → Nat) (z0 : ST) (R : Int32 × ST) (h : m_clear z0 = some R) : qMi l y_SlippedStreamsModel_clear w_SlippedStreamsModel_clear 7 155 (KX dC dI cI cZ) (dC, dI) q_cl (wM cI cZ ad) [.ref (ad 0)] z0 R := by
  intro sz
  refine Met.ofW (cc := b_SlippedStreamsModel_clear) (maxL := 2) (ret := (some .int)) (by decide) rfl ?_
  intro p e s m args below meth c s₁ B hml hv
  obtain ⟨rfl, hsz, hP, hKK, hD0⟩ := hv
  have hx := B.exec
  have hb := B.bytes
  have hr := B.returns
  have hts : ∀ w ∈ q_big, w.before _ s = true := fun w h => atoms_spec (ws := w_SlippedStreamsModel_clear) B.pre w (List.mem_cons_of_mem _ h)
  have hown : s.vm.findClass "SlippedStreamsModel" = some m.cls := findClass_of_methodNamed B.named
  have hlocks := B.notSynchronized
  subst hsz
  have hD := hD0.self (sz := s.heap.size)
  generalize hAe : va_A (wM cI cZ ad z0) s.heap.size = A at hD ⊢
  have hA : ∀ q : Nat, s.heap.size ≤ q → A q := fun q h => by rw [← hAe]; exact Or.inr h
  have hS : va_S A s.heap s.heap [] := va_S.rf
  have hK := hKK.1
  have hl := lv_entry ([.ref (ad 0)]) (n := 2) (Nat.le_of_ble_eq_true rfl)
  rw [lg_entry_eq]
  generalize (lg_sl ([.ref (ad 0)]) ++ List.replicate (2 - (lg_sl ([.ref (ad 0)])).length) Slot.unset).toArray = ls at hl ⊢
  have hl : lv_has ls 2 [(0, .ref (ad 0))] := hl
  unfold m_clear at h
  refine lv_aload_n hx hb d_SlippedStreamsModel_clear_0 rfl (lv_at hl 0 rfl) ?_
  refine mg_0_count hx hb hts hin_SlippedStreamsModel hown hK hP (hts _ k_813) (fun _ h9 => h9) d_SlippedStreamsModel_clear_1 ?_
  refine lv_istore_n (lv' := [(1, .int (z0.1 0)), (0, .ref (ad 0))]) hx hb d_SlippedStreamsModel_clear_4 rfl hl (by decide) rfl (fun ls hl => ?_)
  refine lv_aload_n hx hb d_SlippedStreamsModel_clear_5 rfl (lv_at hl 1 rfl) ?_
  refine lv_iconst (v := 0) hx hb d_SlippedStreamsModel_clear_6 (by decide) ?_
  obtain ⟨z1, e1, h⟩ := bnd_e h
  refine mp_0_count hx hb hts hin_SlippedStreamsModel hown hK hP hD hS (hts _ k_813) (fun _ h9 => h9) d_SlippedStreamsModel_clear_7 e1 (fun H locs hP hD hS => ?_)
  refine lv_aload_n hx hb d_SlippedStreamsModel_clear_10 rfl (lv_at hl 1 rfl) ?_
  obtain ⟨r2, z2, hc2, h⟩ := obn_e h
  refine q_gov (va_runV (As := []) (rest := []) ⟨hx, hb, hml, hown, hts⟩ (c_m_slice l dC dI cI cZ ad z1 _ hc2 _) (cwV 0 hts (q_goodL _ (q_l4 k_902 k_904 k_27 k_64) k_905) rfl rfl rfl (by decide +kernel) ⟨Nat.le_of_ble_eq_true rfl, Nat.le_of_ble_eq_true rfl⟩) (q_preV qok hKK hP hD (va_recv (ci := 9) (q0 := 0) hK hP rfl rfl)) rfl rfl hl.1 rfl (lv_room (Nat.le_of_ble_eq_true rfl)) d_SlippedStreamsModel_clear_11 ⟨Nat.le_refl _, Nat.le_refl _⟩) hD hS hA (fun H locs hP hD hS => ?_)
  refine lv_aload_n hx hb d_SlippedStreamsModel_clear_14 rfl (lv_at hl 1 rfl) ?_
  obtain ⟨r3, z3, hc3, h⟩ := obn_e h
  refine q_gov (va_runV (As := []) (rest := []) ⟨hx, hb, hml, hown, hts⟩ (c_m_reset l dC dI cI cZ ad z2 _ hc3 _) (cwV 0 hts (q_goodL _ (q_l4 k_909 k_910 k_911 k_64) k_912) rfl rfl rfl (by decide +kernel) ⟨Nat.le_of_ble_eq_true rfl, Nat.le_of_ble_eq_true rfl⟩) (q_preV qok hKK hP hD (va_recv (ci := 9) (q0 := 0) hK hP rfl rfl)) rfl rfl hl.1 rfl (lv_room (Nat.le_of_ble_eq_true rfl)) d_SlippedStreamsModel_clear_15 ⟨Nat.le_refl _, Nat.le_refl _⟩) hD hS hA (fun H locs hP hD hS => ?_)
  refine lv_iload_n hx hb d_SlippedStreamsModel_clear_18 rfl (lv_at hl 0 rfl) ?_
  exact q_iret hx hb hr hlocks h hP hD hS d_SlippedStreamsModel_clear_19
def m_streamOf (z0 : ST) (x1 : Int32) : OR := if x1 < 0 then (some ((-1), z0)) else (if (z0.1 0) ≤ x1 then (some ((-1), z0)) else (obn (m_belongs z0 x1) (fun r1 z1 => some (r1, z1))))
set_option maxRecDepth 100000 in
set_option maxHeartbeats 4000000 in
theorem c_m_streamOf (l : Launch) (dC : Nat → ClassId) (dI : Nat → Nat → Nat) (cI cZ : ClassId) (ad : Nat → Nat) (z0 : ST) (x1 : Int32) (R : Int32 × ST) (h : m_streamOf z0 x1 = some R) : qMi l y_SlippedStreamsModel_streamOf w_SlippedStreamsModel_streamOf 1 22 (KX dC dI cI cZ) (dC, dI) q_cl (wM cI cZ ad) [.ref (ad 0), .int x1] z0 R := by
  intro sz
  refine Met.ofW (cc := b_SlippedStreamsModel_streamOf) (maxL := 2) (ret := (some .int)) (by decide) rfl ?_
  intro p e s m args below meth c s₁ B hml hv
  obtain ⟨rfl, hsz, hP, hKK, hD0⟩ := hv
  have hx := B.exec
  have hb := B.bytes
  have hr := B.returns
  have hts : ∀ w ∈ q_big, w.before _ s = true := fun w h => atoms_spec (ws := w_SlippedStreamsModel_streamOf) B.pre w (List.mem_cons_of_mem _ h)
  have hown : s.vm.findClass "SlippedStreamsModel" = some m.cls := findClass_of_methodNamed B.named
  have hlocks := B.notSynchronized
  subst hsz
  have hD := hD0.self (sz := s.heap.size)
  generalize hAe : va_A (wM cI cZ ad z0) s.heap.size = A at hD ⊢
  have hA : ∀ q : Nat, s.heap.size ≤ q → A q := fun q h => by rw [← hAe]; exact Or.inr h
  have hS : va_S A s.heap s.heap [] := va_S.rf
  have hK := hKK.1
  have hl := lv_entry ([.ref (ad 0), .int x1]) (n := 2) (Nat.le_of_ble_eq_true rfl)
  rw [lg_entry_eq]
  generalize (lg_sl ([.ref (ad 0), .int x1]) ++ List.replicate (2 - (lg_sl ([.ref (ad 0), .int x1])).length) Slot.unset).toArray = ls at hl ⊢
  have hl : lv_has ls 2 [(0, .ref (ad 0)), (1, .int x1)] := hl
  unfold m_streamOf at h
  refine lv_iload_n hx hb d_SlippedStreamsModel_streamOf_0 rfl (lv_at hl 1 rfl) ?_
  refine lv_if_lt (tgt := 20) hx hb d_SlippedStreamsModel_streamOf_1 (by decide) (fun hc => ?_) (fun hc => ?_)
  · replace h := if_t hc h
    refine lv_iconst (v := (-1)) hx hb d_SlippedStreamsModel_streamOf_20 (by decide) ?_
    exact q_iret hx hb hr hlocks h hP hD hS d_SlippedStreamsModel_streamOf_21
  · replace h := if_f hc h
    refine lv_iload_n hx hb d_SlippedStreamsModel_streamOf_4 rfl (lv_at hl 1 rfl) ?_
    refine lv_aload_n hx hb d_SlippedStreamsModel_streamOf_5 rfl (lv_at hl 0 rfl) ?_
    refine mg_0_count hx hb hts hin_SlippedStreamsModel hown hK hP (hts _ k_813) (fun _ h9 => h9) d_SlippedStreamsModel_streamOf_6 ?_
    refine lv_icmp_ge (tgt := 20) hx hb d_SlippedStreamsModel_streamOf_9 (by decide) (fun hc => ?_) (fun hc => ?_)
    · replace h := if_t hc h
      refine lv_iconst (v := (-1)) hx hb d_SlippedStreamsModel_streamOf_20 (by decide) ?_
      exact q_iret hx hb hr hlocks h hP hD hS d_SlippedStreamsModel_streamOf_21
    · replace h := if_f hc h
      refine lv_aload_n hx hb d_SlippedStreamsModel_streamOf_12 rfl (lv_at hl 0 rfl) ?_
      refine lv_iload_n hx hb d_SlippedStreamsModel_streamOf_13 rfl (lv_at hl 1 rfl) ?_
      obtain ⟨r1, z1, hc1, h⟩ := obn_e h
      refine q_goi (va_runV (As := [.int x1]) (rest := []) ⟨hx, hb, hml, hown, hts⟩ (c_m_belongs l dC dI cI cZ ad z0 x1 _ hc1 _) (cwV 1 hts (q_goodL _ (q_l4 k_925 k_927 k_31 k_64) k_928) rfl rfl rfl (by decide +kernel) ⟨Nat.le_of_ble_eq_true rfl, Nat.le_of_ble_eq_true rfl⟩) (q_preV qok hKK hP hD (va_recv (ci := 9) (q0 := 0) hK hP rfl rfl)) rfl rfl hl.1 rfl (lv_room (Nat.le_of_ble_eq_true rfl)) d_SlippedStreamsModel_streamOf_14 ⟨Nat.le_refl _, Nat.le_refl _⟩) hD hS hA (fun H locs hP hD hS => ?_)
      refine lv_goto (tgt := 21) hx hb d_SlippedStreamsModel_streamOf_17 (by decide) ?_
      exact q_iret hx hb hr hlocks h hP hD hS d_SlippedStreamsModel_streamOf_21
def m_addressRegisters_g0 (k : Nat → ST → Int32 → Int32 → Int32 → OR) (z0 : ST) (y1 y2 y3 : Int32) : OR := k 1 z0 0 0 0
def m_addressRegisters_g4 (k : Nat → ST → Int32 → Int32 → Int32 → OR) (z0 : ST) (y1 y2 y3 : Int32) : OR := if 8 ≤ y2 then (some (y1, z0)) else (gin y2 8 (if (z0.2 4 y2.toNatClampNeg) = 0 then (k 2 z0 y1 y2 y1) else (k 2 z0 y1 y2 (y1 + 1))))
def m_addressRegisters_g26 (k : Nat → ST → Int32 → Int32 → Int32 → OR) (z0 : ST) (y1 y2 y3 : Int32) : OR := k 1 z0 y3 (y2 + 1) 0
def m_addressRegisters_g (k : Nat → ST → Int32 → Int32 → Int32 → OR) (n : Nat) : ST → Int32 → Int32 → Int32 → OR := match n with
  | 0 => m_addressRegisters_g0 k
  | 1 => m_addressRegisters_g4 k
  | 2 => m_addressRegisters_g26 k
  | _ => fun _ _ _ _ => none
def m_addressRegisters_f : Nat → Nat → ST → Int32 → Int32 → Int32 → OR
  | 0 => fun _ _ _ _ _ => none
  | n + 1 => m_addressRegisters_g (m_addressRegisters_f n)
def m_addressRegisters (z0 : ST) : OR := m_addressRegisters_f 4000 0 z0 0 0 0
set_option maxRecDepth 100000 in
set_option maxHeartbeats 4000000 in
theorem c_m_addressRegisters (l : Launch) (dC : Nat → ClassId) (dI : Nat → Nat → Nat) (cI cZ : ClassId) (ad : Nat → Nat) (z0 : ST) (R : Int32 × ST) (h : m_addressRegisters z0 = some R) : qMi l y_SlippedStreamsModel_addressRegisters w_SlippedStreamsModel_addressRegisters 0 0 (KX dC dI cI cZ) (dC, dI) q_cl (wM cI cZ ad) [.ref (ad 0)] z0 R := by
  intro sz
  refine Met.ofW (cc := b_SlippedStreamsModel_addressRegisters) (maxL := 3) (ret := (some .int)) (by decide) rfl ?_
  intro p e s m args below meth c s₁ B hml hv
  obtain ⟨rfl, hsz, hP, hKK, hD0⟩ := hv
  have hx := B.exec
  have hb := B.bytes
  have hr := B.returns
  have hts : ∀ w ∈ q_big, w.before _ s = true := fun w h => atoms_spec (ws := w_SlippedStreamsModel_addressRegisters) B.pre w (List.mem_cons_of_mem _ h)
  have hown : s.vm.findClass "SlippedStreamsModel" = some m.cls := findClass_of_methodNamed B.named
  have hlocks := B.notSynchronized
  subst hsz
  have hD := hD0.self (sz := s.heap.size)
  generalize hAe : va_A (wM cI cZ ad z0) s.heap.size = A at hD ⊢
  have hA : ∀ q : Nat, s.heap.size ≤ q → A q := fun q h => by rw [← hAe]; exact Or.inr h
  have hS : va_S A s.heap s.heap [] := va_S.rf
  have hK := hKK.1
  have hl := lv_entry ([.ref (ad 0)]) (n := 3) (Nat.le_of_ble_eq_true rfl)
  rw [lg_entry_eq]
  generalize (lg_sl ([.ref (ad 0)]) ++ List.replicate (3 - (lg_sl ([.ref (ad 0)])).length) Slot.unset).toArray = ls at hl ⊢
  have hl : lv_has ls 3 [(0, .ref (ad 0))] := hl
  have key : ∀ n : Nat, (∀ (z0 : ST) (y1 y2 y3 : Int32) (H : Heap) (locs : List Loc) (ls : Array Slot), m_addressRegisters_f n 0 z0 y1 y2 y3 = some R → va_P (dC, dI) q_cl (wM cI cZ ad z0) H → va_D A (wM cI cZ ad z0) → va_S A s.heap H locs → lv_has ls 3 [(0, .ref (ad 0))] → qWi p l e w_SlippedStreamsModel_addressRegisters 0 0 s m [.ref (ad 0)] below meth c (dC, dI) q_cl (wM cI cZ ad) A R H locs (F0 m 0 ls [])) ∧ (∀ (z0 : ST) (y1 y2 y3 : Int32) (H : Heap) (locs : List Loc) (ls : Array Slot), m_addressRegisters_f n 1 z0 y1 y2 y3 = some R → va_P (dC, dI) q_cl (wM cI cZ ad z0) H → va_D A (wM cI cZ ad z0) → va_S A s.heap H locs → lv_has ls 3 [(0, .ref (ad 0)), (1, .int y1), (2, .int y2)] → qWi p l e w_SlippedStreamsModel_addressRegisters 0 0 s m [.ref (ad 0)] below meth c (dC, dI) q_cl (wM cI cZ ad) A R H locs (F0 m 4 ls [])) ∧ (∀ (z0 : ST) (y1 y2 y3 : Int32) (H : Heap) (locs : List Loc) (ls : Array Slot), m_addressRegisters_f n 2 z0 y1 y2 y3 = some R → va_P (dC, dI) q_cl (wM cI cZ ad z0) H → va_D A (wM cI cZ ad z0) → va_S A s.heap H locs → lv_has ls 3 [(0, .ref (ad 0)), (1, .int y1), (2, .int y2)] → qWi p l e w_SlippedStreamsModel_addressRegisters 0 0 s m [.ref (ad 0)] below meth c (dC, dI) q_cl (wM cI cZ ad) A R H locs (F0 m 26 ls [.int y3])) := by
    intro n
    induction n with
    | zero => exact ⟨fun z0 y1 y2 y3 H locs ls h hP hD hS hl => (by cases h), fun z0 y1 y2 y3 H locs ls h hP hD hS hl => (by cases h), fun z0 y1 y2 y3 H locs ls h hP hD hS hl => (by cases h)⟩
    | succ n ih =>
      obtain ⟨jp_0, jp_4, jp_26⟩ := ih
      refine ⟨?_, ?_, ?_⟩
      · intro z0 y1 y2 y3 H locs ls h hP hD hS hl
        replace h : m_addressRegisters_g0 (m_addressRegisters_f n) z0 y1 y2 y3 = some R := h
        unfold m_addressRegisters_g0 at h
        refine lv_iconst (v := 0) hx hb d_SlippedStreamsModel_addressRegisters_0 (by decide) ?_
        refine lv_istore_n (lv' := [(1, .int 0), (0, .ref (ad 0))]) hx hb d_SlippedStreamsModel_addressRegisters_1 rfl hl (by decide) rfl (fun ls hl => ?_)
        refine lv_iconst (v := 0) hx hb d_SlippedStreamsModel_addressRegisters_2 (by decide) ?_
        refine lv_istore_n (lv' := [(2, .int 0), (1, .int 0), (0, .ref (ad 0))]) hx hb d_SlippedStreamsModel_addressRegisters_3 rfl hl (by decide) rfl (fun ls hl => ?_)
        exact jp_4 z0 0 0 0 _ _ _ h hP hD hS (lv_sub hl [2, 1, 0] rfl)
      · intro z0 y1 y2 y3 H locs ls h hP hD hS hl
        replace h : m_addressRegisters_g4 (m_addressRegisters_f n) z0 y1 y2 y3 = some R := h
        unfold m_addressRegisters_g4 at h
        refine lv_iload_n hx hb d_SlippedStreamsModel_addressRegisters_4 rfl (lv_at hl 2 rfl) ?_
        refine lv_bipush (v := 8) hx hb d_SlippedStreamsModel_addressRegisters_5 (by decide) ?_
        refine lv_icmp_ge (tgt := 33) hx hb d_SlippedStreamsModel_addressRegisters_7 (by decide) (fun hc => ?_) (fun hc => ?_)
        · replace h := if_t hc h
          refine lv_iload_n hx hb d_SlippedStreamsModel_addressRegisters_33 rfl (lv_at hl 1 rfl) ?_
          exact q_iret hx hb hr hlocks h hP hD hS d_SlippedStreamsModel_addressRegisters_34
        · replace h := if_f hc h
          refine lv_aload_n hx hb d_SlippedStreamsModel_addressRegisters_10 rfl (lv_at hl 0 rfl) ?_
          refine mg_0_isAddress hx hb hts hin_SlippedStreamsModel hown hK hP (hts _ k_820) (fun _ h9 => h9) d_SlippedStreamsModel_addressRegisters_11 ?_
          refine lv_iload_n hx hb d_SlippedStreamsModel_addressRegisters_14 rfl (lv_at hl 2 rfl) ?_
          obtain ⟨hi, h⟩ := gin_e h
          refine ml_4 hx hb hK hP hi d_SlippedStreamsModel_addressRegisters_15 ?_
          refine lv_if_eq (tgt := 25) hx hb d_SlippedStreamsModel_addressRegisters_16 (by decide) (fun hc => ?_) (fun hc => ?_)
          · replace h := if_t hc h
            refine lv_iload_n hx hb d_SlippedStreamsModel_addressRegisters_25 rfl (lv_at hl 1 rfl) ?_
            exact jp_26 z0 y1 y2 y1 _ _ _ h hP hD hS (lv_sub hl [0, 1, 2] rfl)
          · replace h := if_f hc h
            refine lv_iload_n hx hb d_SlippedStreamsModel_addressRegisters_19 rfl (lv_at hl 1 rfl) ?_
            refine lv_iconst (v := 1) hx hb d_SlippedStreamsModel_addressRegisters_20 (by decide) ?_
            refine lv_iadd hx hb d_SlippedStreamsModel_addressRegisters_21 ?_
            refine lv_goto (tgt := 26) hx hb d_SlippedStreamsModel_addressRegisters_22 (by decide) ?_
            exact jp_26 z0 y1 y2 (y1 + 1) _ _ _ h hP hD hS (lv_sub hl [0, 1, 2] rfl)
      · intro z0 y1 y2 y3 H locs ls h hP hD hS hl
        replace h : m_addressRegisters_g26 (m_addressRegisters_f n) z0 y1 y2 y3 = some R := h
        unfold m_addressRegisters_g26 at h
        refine lv_istore_n (lv' := [(1, .int y3), (0, .ref (ad 0)), (2, .int y2)]) hx hb d_SlippedStreamsModel_addressRegisters_26 rfl hl (by decide) rfl (fun ls hl => ?_)
        refine lv_iinc (k := 2) (v := y2 + 1) (lv' := [(2, .int (y2 + 1)), (1, .int y3), (0, .ref (ad 0))]) hx hb d_SlippedStreamsModel_addressRegisters_27 hl rfl rfl (by decide) rfl (fun ls hl => ?_)
        refine lv_goto (tgt := 4) hx hb d_SlippedStreamsModel_addressRegisters_30 (by decide) ?_
        exact jp_4 z0 y3 (y2 + 1) 0 _ _ _ h hP hD hS (lv_sub hl [2, 1, 0] rfl)
  exact (key 4000).1 z0 0 0 0 _ _ _ h hP hD hS (lv_sub hl [0] rfl)
def m_isCount (z0 : ST) (x1 : Int32) : OR := if x1 ≤ 0 then (gib 0 (some (0, z0))) else (if 50 < x1 then (gib 0 (some (0, z0))) else (gib 1 (some (1, z0))))
set_option maxRecDepth 100000 in
set_option maxHeartbeats 4000000 in
theorem c_m_isCount (l : Launch) (dC : Nat → ClassId) (dI : Nat → Nat → Nat) (cI cZ : ClassId) (ad : Nat → Nat) (z0 : ST) (x1 : Int32) (R : Int32 × ST) (h : m_isCount z0 x1 = some R) : qMi l y_SlippedStreamsModel_isCount w_SlippedStreamsModel_isCount 0 0 (KX dC dI cI cZ) (dC, dI) q_cl (wM cI cZ ad) [.int x1] z0 R := by
  intro sz
  refine Met.ofW (cc := b_SlippedStreamsModel_isCount) (maxL := 1) (ret := (some .boolean)) (by decide) rfl ?_
  intro p e s m args below meth c s₁ B hml hv
  obtain ⟨rfl, hsz, hP, hKK, hD0⟩ := hv
  have hx := B.exec
  have hb := B.bytes
  have hr := B.returns
  have hts : ∀ w ∈ q_big, w.before _ s = true := fun w h => atoms_spec (ws := w_SlippedStreamsModel_isCount) B.pre w (List.mem_cons_of_mem _ h)
  have hown : s.vm.findClass "SlippedStreamsModel" = some m.cls := findClass_of_methodNamed B.named
  have hlocks := B.notSynchronized
  subst hsz
  have hD := hD0.self (sz := s.heap.size)
  generalize hAe : va_A (wM cI cZ ad z0) s.heap.size = A at hD ⊢
  have hA : ∀ q : Nat, s.heap.size ≤ q → A q := fun q h => by rw [← hAe]; exact Or.inr h
  have hS : va_S A s.heap s.heap [] := va_S.rf
  have hK := hKK.1
  have hl := lv_entry ([.int x1]) (n := 1) (Nat.le_of_ble_eq_true rfl)
  rw [lg_entry_eq]
  generalize (lg_sl ([.int x1]) ++ List.replicate (1 - (lg_sl ([.int x1])).length) Slot.unset).toArray = ls at hl ⊢
  have hl : lv_has ls 1 [(0, .int x1)] := hl
  unfold m_isCount at h
  refine lv_iload_n hx hb d_SlippedStreamsModel_isCount_0 rfl (lv_at hl 0 rfl) ?_
  refine lv_if_le (tgt := 14) hx hb d_SlippedStreamsModel_isCount_1 (by decide) (fun hc => ?_) (fun hc => ?_)
  · replace h := if_t hc h
    refine lv_iconst (v := 0) hx hb d_SlippedStreamsModel_isCount_14 (by decide) ?_
    exact q_zret hx hb hr hlocks h hP hD hS d_SlippedStreamsModel_isCount_15
  · replace h := if_f hc h
    refine lv_iload_n hx hb d_SlippedStreamsModel_isCount_4 rfl (lv_at hl 0 rfl) ?_
    refine lv_bipush (v := 50) hx hb d_SlippedStreamsModel_isCount_5 (by decide) ?_
    refine lv_icmp_gt (tgt := 14) hx hb d_SlippedStreamsModel_isCount_7 (by decide) (fun hc => ?_) (fun hc => ?_)
    · replace h := if_t hc h
      refine lv_iconst (v := 0) hx hb d_SlippedStreamsModel_isCount_14 (by decide) ?_
      exact q_zret hx hb hr hlocks h hP hD hS d_SlippedStreamsModel_isCount_15
    · replace h := if_f hc h
      refine lv_iconst (v := 1) hx hb d_SlippedStreamsModel_isCount_10 (by decide) ?_
      refine lv_goto (tgt := 15) hx hb d_SlippedStreamsModel_isCount_11 (by decide) ?_
      exact q_zret hx hb hr hlocks h hP hD hS d_SlippedStreamsModel_isCount_15
def m_leave (z0 : ST) (x1 x2 : Int32) : OR := gin x1 2 (bnd (stA z0 6 (upd (z0.2 6) x1.toNatClampNeg x2)) (fun z1 => gin x1 2 (gin x1 2 (bnd (stA z1 7 (upd (z1.2 7) x1.toNatClampNeg ((z1.2 7 x1.toNatClampNeg) + 1))) (fun z2 => obn (m_goOver z2 x1) (fun r3 z3 => some (0, z3)))))))
set_option maxRecDepth 100000 in
set_option maxHeartbeats 4000000 in
theorem c_m_leave (l : Launch) (dC : Nat → ClassId) (dI : Nat → Nat → Nat) (cI cZ : ClassId) (ad : Nat → Nat) (z0 : ST) (x1 x2 : Int32) (R : Int32 × ST) (h : m_leave z0 x1 x2 = some R) : qMv l y_SlippedStreamsModel_leave w_SlippedStreamsModel_leave 6 134 (KX dC dI cI cZ) (dC, dI) q_cl (wM cI cZ ad) [.ref (ad 0), .int x1, .int x2] z0 R := by
  intro sz
  refine Met.ofW (cc := b_SlippedStreamsModel_leave) (maxL := 3) (ret := none) (by decide) rfl ?_
  intro p e s m args below meth c s₁ B hml hv
  obtain ⟨rfl, hsz, hP, hKK, hD0⟩ := hv
  have hx := B.exec
  have hb := B.bytes
  have hr := B.returns
  have hts : ∀ w ∈ q_big, w.before _ s = true := fun w h => atoms_spec (ws := w_SlippedStreamsModel_leave) B.pre w (List.mem_cons_of_mem _ h)
  have hown : s.vm.findClass "SlippedStreamsModel" = some m.cls := findClass_of_methodNamed B.named
  have hlocks := B.notSynchronized
  subst hsz
  have hD := hD0.self (sz := s.heap.size)
  generalize hAe : va_A (wM cI cZ ad z0) s.heap.size = A at hD ⊢
  have hA : ∀ q : Nat, s.heap.size ≤ q → A q := fun q h => by rw [← hAe]; exact Or.inr h
  have hS : va_S A s.heap s.heap [] := va_S.rf
  have hK := hKK.1
  have hl := lv_entry ([.ref (ad 0), .int x1, .int x2]) (n := 3) (Nat.le_of_ble_eq_true rfl)
  rw [lg_entry_eq]
  generalize (lg_sl ([.ref (ad 0), .int x1, .int x2]) ++ List.replicate (3 - (lg_sl ([.ref (ad 0), .int x1, .int x2])).length) Slot.unset).toArray = ls at hl ⊢
  have hl : lv_has ls 3 [(0, .ref (ad 0)), (1, .int x1), (2, .int x2)] := hl
  unfold m_leave at h
  refine lv_aload_n hx hb d_SlippedStreamsModel_leave_0 rfl (lv_at hl 0 rfl) ?_
  refine mg_0_places hx hb hts hin_SlippedStreamsModel hown hK hP (hts _ k_822) (fun _ h9 => h9) d_SlippedStreamsModel_leave_1 ?_
  refine lv_iload_n hx hb d_SlippedStreamsModel_leave_4 rfl (lv_at hl 1 rfl) ?_
  refine lv_iload_n hx hb d_SlippedStreamsModel_leave_5 rfl (lv_at hl 2 rfl) ?_
  obtain ⟨hi, h⟩ := gin_e h
  obtain ⟨z1, e1, h⟩ := bnd_e h
  refine ms_6 hx hb hK hP hD hS hi d_SlippedStreamsModel_leave_6 e1 (fun H locs hP hD hS => ?_)
  refine lv_aload_n hx hb d_SlippedStreamsModel_leave_7 rfl (lv_at hl 0 rfl) ?_
  refine mg_0_behind hx hb hts hin_SlippedStreamsModel hown hK hP (hts _ k_823) (fun _ h9 => h9) d_SlippedStreamsModel_leave_8 ?_
  refine lv_iload_n hx hb d_SlippedStreamsModel_leave_11 rfl (lv_at hl 1 rfl) ?_
  refine lv_aload_n hx hb d_SlippedStreamsModel_leave_12 rfl (lv_at hl 0 rfl) ?_
  refine mg_0_behind hx hb hts hin_SlippedStreamsModel hown hK hP (hts _ k_823) (fun _ h9 => h9) d_SlippedStreamsModel_leave_13 ?_
  refine lv_iload_n hx hb d_SlippedStreamsModel_leave_16 rfl (lv_at hl 1 rfl) ?_
  obtain ⟨hi, h⟩ := gin_e h
  refine ml_7 hx hb hK hP hi d_SlippedStreamsModel_leave_17 ?_
  refine lv_iconst (v := 1) hx hb d_SlippedStreamsModel_leave_18 (by decide) ?_
  refine lv_iadd hx hb d_SlippedStreamsModel_leave_19 ?_
  obtain ⟨hi, h⟩ := gin_e h
  obtain ⟨z2, e2, h⟩ := bnd_e h
  refine ms_7 hx hb hK hP hD hS hi d_SlippedStreamsModel_leave_20 e2 (fun H locs hP hD hS => ?_)
  refine lv_aload_n hx hb d_SlippedStreamsModel_leave_21 rfl (lv_at hl 0 rfl) ?_
  refine lv_iload_n hx hb d_SlippedStreamsModel_leave_22 rfl (lv_at hl 1 rfl) ?_
  obtain ⟨r3, z3, hc3, h⟩ := obn_e h
  refine q_gov (va_runV (As := [.int x1]) (rest := []) ⟨hx, hb, hml, hown, hts⟩ (c_m_goOver l dC dI cI cZ ad z2 x1 _ hc3 _) (cwV 1 hts (q_goodL _ (q_l4 k_913 k_915 k_28 k_64) k_916) rfl rfl rfl (by decide +kernel) ⟨Nat.le_of_ble_eq_true rfl, Nat.le_of_ble_eq_true rfl⟩) (q_preV qok hKK hP hD (va_recv (ci := 9) (q0 := 0) hK hP rfl rfl)) rfl rfl hl.1 rfl (lv_room (Nat.le_of_ble_eq_true rfl)) d_SlippedStreamsModel_leave_23 ⟨Nat.le_refl _, Nat.le_refl _⟩) hD hS hA (fun H locs hP hD hS => ?_)
  exact q_vret hx hb hr hlocks h hP hD hS d_SlippedStreamsModel_leave_26
def m_put (z0 : ST) (x1 x2 : Int32) : OR := gin x1 5 (gin ((6 * x1) + (z0.2 10 x1.toNatClampNeg)) 30 (bnd (stA z0 9 (upd (z0.2 9) ((6 * x1) + (z0.2 10 x1.toNatClampNeg)).toNatClampNeg x2)) (fun z1 => gin x1 5 (gin x1 5 (bnd (stA z1 10 (upd (z1.2 10) x1.toNatClampNeg ((z1.2 10 x1.toNatClampNeg) + 1))) (fun z2 => some (0, z2)))))))
set_option maxRecDepth 100000 in
set_option maxHeartbeats 4000000 in
theorem c_m_put (l : Launch) (dC : Nat → ClassId) (dI : Nat → Nat → Nat) (cI cZ : ClassId) (ad : Nat → Nat) (z0 : ST) (x1 x2 : Int32) (R : Int32 × ST) (h : m_put z0 x1 x2 = some R) : qMv l y_SlippedStreamsModel_put w_SlippedStreamsModel_put 0 0 (KX dC dI cI cZ) (dC, dI) q_cl (wM cI cZ ad) [.ref (ad 0), .int x1, .int x2] z0 R := by
  intro sz
  refine Met.ofW (cc := b_SlippedStreamsModel_put) (maxL := 3) (ret := none) (by decide) rfl ?_
  intro p e s m args below meth c s₁ B hml hv
  obtain ⟨rfl, hsz, hP, hKK, hD0⟩ := hv
  have hx := B.exec
  have hb := B.bytes
  have hr := B.returns
  have hts : ∀ w ∈ q_big, w.before _ s = true := fun w h => atoms_spec (ws := w_SlippedStreamsModel_put) B.pre w (List.mem_cons_of_mem _ h)
  have hown : s.vm.findClass "SlippedStreamsModel" = some m.cls := findClass_of_methodNamed B.named
  have hlocks := B.notSynchronized
  subst hsz
  have hD := hD0.self (sz := s.heap.size)
  generalize hAe : va_A (wM cI cZ ad z0) s.heap.size = A at hD ⊢
  have hA : ∀ q : Nat, s.heap.size ≤ q → A q := fun q h => by rw [← hAe]; exact Or.inr h
  have hS : va_S A s.heap s.heap [] := va_S.rf
  have hK := hKK.1
  have hl := lv_entry ([.ref (ad 0), .int x1, .int x2]) (n := 3) (Nat.le_of_ble_eq_true rfl)
  rw [lg_entry_eq]
  generalize (lg_sl ([.ref (ad 0), .int x1, .int x2]) ++ List.replicate (3 - (lg_sl ([.ref (ad 0), .int x1, .int x2])).length) Slot.unset).toArray = ls at hl ⊢
  have hl : lv_has ls 3 [(0, .ref (ad 0)), (1, .int x1), (2, .int x2)] := hl
  unfold m_put at h
  refine lv_aload_n hx hb d_SlippedStreamsModel_put_0 rfl (lv_at hl 0 rfl) ?_
  refine mg_0_queues hx hb hts hin_SlippedStreamsModel hown hK hP (hts _ k_828) (fun _ h9 => h9) d_SlippedStreamsModel_put_1 ?_
  refine lv_bipush (v := 6) hx hb d_SlippedStreamsModel_put_4 (by decide) ?_
  refine lv_iload_n hx hb d_SlippedStreamsModel_put_6 rfl (lv_at hl 1 rfl) ?_
  refine lv_imul hx hb d_SlippedStreamsModel_put_7 ?_
  refine lv_aload_n hx hb d_SlippedStreamsModel_put_8 rfl (lv_at hl 0 rfl) ?_
  refine mg_0_lengths hx hb hts hin_SlippedStreamsModel hown hK hP (hts _ k_829) (fun _ h9 => h9) d_SlippedStreamsModel_put_9 ?_
  refine lv_iload_n hx hb d_SlippedStreamsModel_put_12 rfl (lv_at hl 1 rfl) ?_
  obtain ⟨hi, h⟩ := gin_e h
  refine ml_10 hx hb hK hP hi d_SlippedStreamsModel_put_13 ?_
  refine lv_iadd hx hb d_SlippedStreamsModel_put_14 ?_
  refine lv_iload_n hx hb d_SlippedStreamsModel_put_15 rfl (lv_at hl 2 rfl) ?_
  obtain ⟨hi, h⟩ := gin_e h
  obtain ⟨z1, e1, h⟩ := bnd_e h
  refine ms_9 hx hb hK hP hD hS hi d_SlippedStreamsModel_put_16 e1 (fun H locs hP hD hS => ?_)
  refine lv_aload_n hx hb d_SlippedStreamsModel_put_17 rfl (lv_at hl 0 rfl) ?_
  refine mg_0_lengths hx hb hts hin_SlippedStreamsModel hown hK hP (hts _ k_829) (fun _ h9 => h9) d_SlippedStreamsModel_put_18 ?_
  refine lv_iload_n hx hb d_SlippedStreamsModel_put_21 rfl (lv_at hl 1 rfl) ?_
  refine lv_aload_n hx hb d_SlippedStreamsModel_put_22 rfl (lv_at hl 0 rfl) ?_
  refine mg_0_lengths hx hb hts hin_SlippedStreamsModel hown hK hP (hts _ k_829) (fun _ h9 => h9) d_SlippedStreamsModel_put_23 ?_
  refine lv_iload_n hx hb d_SlippedStreamsModel_put_26 rfl (lv_at hl 1 rfl) ?_
  obtain ⟨hi, h⟩ := gin_e h
  refine ml_10 hx hb hK hP hi d_SlippedStreamsModel_put_27 ?_
  refine lv_iconst (v := 1) hx hb d_SlippedStreamsModel_put_28 (by decide) ?_
  refine lv_iadd hx hb d_SlippedStreamsModel_put_29 ?_
  obtain ⟨hi, h⟩ := gin_e h
  obtain ⟨z2, e2, h⟩ := bnd_e h
  refine ms_10 hx hb hK hP hD hS hi d_SlippedStreamsModel_put_30 e2 (fun H locs hP hD hS => ?_)
  exact q_vret hx hb hr hlocks h hP hD hS d_SlippedStreamsModel_put_31
def m_reckon (z0 : ST) (x1 x2 x3 : Int32) : OR := if x1 = 1 then (some (x2 + x3, z0)) else (if x1 = 2 then (some (x2 - x3, z0)) else (some (x2 * x3, z0)))
set_option maxRecDepth 100000 in
set_option maxHeartbeats 4000000 in
theorem c_m_reckon (l : Launch) (dC : Nat → ClassId) (dI : Nat → Nat → Nat) (cI cZ : ClassId) (ad : Nat → Nat) (z0 : ST) (x1 x2 x3 : Int32) (R : Int32 × ST) (h : m_reckon z0 x1 x2 x3 = some R) : qMi l y_SlippedStreamsModel_reckon w_SlippedStreamsModel_reckon 0 0 (KX dC dI cI cZ) (dC, dI) q_cl (wM cI cZ ad) [.int x1, .int x2, .int x3] z0 R := by
  intro sz
  refine Met.ofW (cc := b_SlippedStreamsModel_reckon) (maxL := 3) (ret := (some .int)) (by decide) rfl ?_
  intro p e s m args below meth c s₁ B hml hv
  obtain ⟨rfl, hsz, hP, hKK, hD0⟩ := hv
  have hx := B.exec
  have hb := B.bytes
  have hr := B.returns
  have hts : ∀ w ∈ q_big, w.before _ s = true := fun w h => atoms_spec (ws := w_SlippedStreamsModel_reckon) B.pre w (List.mem_cons_of_mem _ h)
  have hown : s.vm.findClass "SlippedStreamsModel" = some m.cls := findClass_of_methodNamed B.named
  have hlocks := B.notSynchronized
  subst hsz
  have hD := hD0.self (sz := s.heap.size)
  generalize hAe : va_A (wM cI cZ ad z0) s.heap.size = A at hD ⊢
  have hA : ∀ q : Nat, s.heap.size ≤ q → A q := fun q h => by rw [← hAe]; exact Or.inr h
  have hS : va_S A s.heap s.heap [] := va_S.rf
  have hK := hKK.1
  have hl := lv_entry ([.int x1, .int x2, .int x3]) (n := 3) (Nat.le_of_ble_eq_true rfl)
  rw [lg_entry_eq]
  generalize (lg_sl ([.int x1, .int x2, .int x3]) ++ List.replicate (3 - (lg_sl ([.int x1, .int x2, .int x3])).length) Slot.unset).toArray = ls at hl ⊢
  have hl : lv_has ls 3 [(0, .int x1), (1, .int x2), (2, .int x3)] := hl
  unfold m_reckon at h
  refine lv_iload_n hx hb d_SlippedStreamsModel_reckon_0 rfl (lv_at hl 0 rfl) ?_
  refine lv_iconst (v := 1) hx hb d_SlippedStreamsModel_reckon_1 (by decide) ?_
  refine lv_icmp_ne (tgt := 11) hx hb d_SlippedStreamsModel_reckon_2 (by decide) (fun hc => ?_) (fun hc => ?_)
  · replace h := if_f hc h
    refine lv_iload_n hx hb d_SlippedStreamsModel_reckon_11 rfl (lv_at hl 0 rfl) ?_
    refine lv_iconst (v := 2) hx hb d_SlippedStreamsModel_reckon_12 (by decide) ?_
    refine lv_icmp_ne (tgt := 22) hx hb d_SlippedStreamsModel_reckon_13 (by decide) (fun hc => ?_) (fun hc => ?_)
    · replace h := if_f hc h
      refine lv_iload_n hx hb d_SlippedStreamsModel_reckon_22 rfl (lv_at hl 1 rfl) ?_
      refine lv_iload_n hx hb d_SlippedStreamsModel_reckon_23 rfl (lv_at hl 2 rfl) ?_
      refine lv_imul hx hb d_SlippedStreamsModel_reckon_24 ?_
      exact q_iret hx hb hr hlocks h hP hD hS d_SlippedStreamsModel_reckon_25
    · replace h := if_t hc h
      refine lv_iload_n hx hb d_SlippedStreamsModel_reckon_16 rfl (lv_at hl 1 rfl) ?_
      refine lv_iload_n hx hb d_SlippedStreamsModel_reckon_17 rfl (lv_at hl 2 rfl) ?_
      refine lv_isub hx hb d_SlippedStreamsModel_reckon_18 ?_
      refine lv_goto (tgt := 25) hx hb d_SlippedStreamsModel_reckon_19 (by decide) ?_
      exact q_iret hx hb hr hlocks h hP hD hS d_SlippedStreamsModel_reckon_25
  · replace h := if_t hc h
    refine lv_iload_n hx hb d_SlippedStreamsModel_reckon_5 rfl (lv_at hl 1 rfl) ?_
    refine lv_iload_n hx hb d_SlippedStreamsModel_reckon_6 rfl (lv_at hl 2 rfl) ?_
    refine lv_iadd hx hb d_SlippedStreamsModel_reckon_7 ?_
    refine lv_goto (tgt := 25) hx hb d_SlippedStreamsModel_reckon_8 (by decide) ?_
    exact q_iret hx hb hr hlocks h hP hD hS d_SlippedStreamsModel_reckon_25
def m_hasRoom_19 (z0 : ST) (y1 y2 y3 y4 : Int32) : OR := if y4 < y3 then (gib 0 (some (0, z0))) else (gib 1 (some (1, z0)))
def m_hasRoom (z0 : ST) (x1 x2 : Int32) : OR := gin x1 5 (if x1 = 4 then (m_hasRoom_19 z0 x1 x2 ((z0.2 10 x1.toNatClampNeg) + x2) 6) else (m_hasRoom_19 z0 x1 x2 ((z0.2 10 x1.toNatClampNeg) + x2) 4))
set_option maxRecDepth 100000 in
set_option maxHeartbeats 4000000 in
theorem c_m_hasRoom (l : Launch) (dC : Nat → ClassId) (dI : Nat → Nat → Nat) (cI cZ : ClassId) (ad : Nat → Nat) (z0 : ST) (x1 x2 : Int32) (R : Int32 × ST) (h : m_hasRoom z0 x1 x2 = some R) : qMi l y_SlippedStreamsModel_hasRoom w_SlippedStreamsModel_hasRoom 0 0 (KX dC dI cI cZ) (dC, dI) q_cl (wM cI cZ ad) [.ref (ad 0), .int x1, .int x2] z0 R := by
  intro sz
  refine Met.ofW (cc := b_SlippedStreamsModel_hasRoom) (maxL := 3) (ret := (some .boolean)) (by decide) rfl ?_
  intro p e s m args below meth c s₁ B hml hv
  obtain ⟨rfl, hsz, hP, hKK, hD0⟩ := hv
  have hx := B.exec
  have hb := B.bytes
  have hr := B.returns
  have hts : ∀ w ∈ q_big, w.before _ s = true := fun w h => atoms_spec (ws := w_SlippedStreamsModel_hasRoom) B.pre w (List.mem_cons_of_mem _ h)
  have hown : s.vm.findClass "SlippedStreamsModel" = some m.cls := findClass_of_methodNamed B.named
  have hlocks := B.notSynchronized
  subst hsz
  have hD := hD0.self (sz := s.heap.size)
  generalize hAe : va_A (wM cI cZ ad z0) s.heap.size = A at hD ⊢
  have hA : ∀ q : Nat, s.heap.size ≤ q → A q := fun q h => by rw [← hAe]; exact Or.inr h
  have hS : va_S A s.heap s.heap [] := va_S.rf
  have hK := hKK.1
  have hl := lv_entry ([.ref (ad 0), .int x1, .int x2]) (n := 3) (Nat.le_of_ble_eq_true rfl)
  rw [lg_entry_eq]
  generalize (lg_sl ([.ref (ad 0), .int x1, .int x2]) ++ List.replicate (3 - (lg_sl ([.ref (ad 0), .int x1, .int x2])).length) Slot.unset).toArray = ls at hl ⊢
  have hl : lv_has ls 3 [(0, .ref (ad 0)), (1, .int x1), (2, .int x2)] := hl
  have jp_19 : ∀ (z0 : ST) (y1 y2 y3 y4 : Int32) (H : Heap) (locs : List Loc) (ls : Array Slot), m_hasRoom_19 z0 y1 y2 y3 y4 = some R → va_P (dC, dI) q_cl (wM cI cZ ad z0) H → va_D A (wM cI cZ ad z0) → va_S A s.heap H locs → lv_has ls 3 [(0, .ref (ad 0)), (1, .int y1), (2, .int y2)] → qWi p l e w_SlippedStreamsModel_hasRoom 0 0 s m [.ref (ad 0), .int x1, .int x2] below meth c (dC, dI) q_cl (wM cI cZ ad) A R H locs (F0 m 19 ls [.int y4, .int y3]) := by
    intro z0 y1 y2 y3 y4 H locs ls h hP hD hS hl
    unfold m_hasRoom_19 at h
    refine lv_icmp_gt (tgt := 26) hx hb d_SlippedStreamsModel_hasRoom_19 (by decide) (fun hc => ?_) (fun hc => ?_)
    · replace h := if_t hc h
      refine lv_iconst (v := 0) hx hb d_SlippedStreamsModel_hasRoom_26 (by decide) ?_
      exact q_zret hx hb hr hlocks h hP hD hS d_SlippedStreamsModel_hasRoom_27
    · replace h := if_f hc h
      refine lv_iconst (v := 1) hx hb d_SlippedStreamsModel_hasRoom_22 (by decide) ?_
      refine lv_goto (tgt := 27) hx hb d_SlippedStreamsModel_hasRoom_23 (by decide) ?_
      exact q_zret hx hb hr hlocks h hP hD hS d_SlippedStreamsModel_hasRoom_27
  unfold m_hasRoom at h
  refine lv_aload_n hx hb d_SlippedStreamsModel_hasRoom_0 rfl (lv_at hl 0 rfl) ?_
  refine mg_0_lengths hx hb hts hin_SlippedStreamsModel hown hK hP (hts _ k_829) (fun _ h9 => h9) d_SlippedStreamsModel_hasRoom_1 ?_
  refine lv_iload_n hx hb d_SlippedStreamsModel_hasRoom_4 rfl (lv_at hl 1 rfl) ?_
  obtain ⟨hi, h⟩ := gin_e h
  refine ml_10 hx hb hK hP hi d_SlippedStreamsModel_hasRoom_5 ?_
  refine lv_iload_n hx hb d_SlippedStreamsModel_hasRoom_6 rfl (lv_at hl 2 rfl) ?_
  refine lv_iadd hx hb d_SlippedStreamsModel_hasRoom_7 ?_
  refine lv_iload_n hx hb d_SlippedStreamsModel_hasRoom_8 rfl (lv_at hl 1 rfl) ?_
  refine lv_iconst (v := 4) hx hb d_SlippedStreamsModel_hasRoom_9 (by decide) ?_
  refine lv_icmp_ne (tgt := 18) hx hb d_SlippedStreamsModel_hasRoom_10 (by decide) (fun hc => ?_) (fun hc => ?_)
  · replace h := if_f hc h
    refine lv_iconst (v := 4) hx hb d_SlippedStreamsModel_hasRoom_18 (by decide) ?_
    exact jp_19 z0 x1 x2 ((z0.2 10 x1.toNatClampNeg) + x2) 4 _ _ _ h hP hD hS (lv_sub hl [0, 1, 2] rfl)
  · replace h := if_t hc h
    refine lv_bipush (v := 6) hx hb d_SlippedStreamsModel_hasRoom_13 (by decide) ?_
    refine lv_goto (tgt := 19) hx hb d_SlippedStreamsModel_hasRoom_15 (by decide) ?_
    exact jp_19 z0 x1 x2 ((z0.2 10 x1.toNatClampNeg) + x2) 6 _ _ _ h hP hD hS (lv_sub hl [0, 1, 2] rfl)
def m_holds (z0 : ST) (x1 x2 x3 : Int32) : OR := if x1 = 6 then (if x3 ≤ x2 then (gib 0 (some (0, z0))) else (gib 1 (some (1, z0)))) else (if x2 = x3 then (gib 0 (some (0, z0))) else (gib 1 (some (1, z0))))
set_option maxRecDepth 100000 in
set_option maxHeartbeats 4000000 in
theorem c_m_holds (l : Launch) (dC : Nat → ClassId) (dI : Nat → Nat → Nat) (cI cZ : ClassId) (ad : Nat → Nat) (z0 : ST) (x1 x2 x3 : Int32) (R : Int32 × ST) (h : m_holds z0 x1 x2 x3 = some R) : qMi l y_SlippedStreamsModel_holds w_SlippedStreamsModel_holds 0 0 (KX dC dI cI cZ) (dC, dI) q_cl (wM cI cZ ad) [.int x1, .int x2, .int x3] z0 R := by
  intro sz
  refine Met.ofW (cc := b_SlippedStreamsModel_holds) (maxL := 3) (ret := (some .boolean)) (by decide) rfl ?_
  intro p e s m args below meth c s₁ B hml hv
  obtain ⟨rfl, hsz, hP, hKK, hD0⟩ := hv
  have hx := B.exec
  have hb := B.bytes
  have hr := B.returns
  have hts : ∀ w ∈ q_big, w.before _ s = true := fun w h => atoms_spec (ws := w_SlippedStreamsModel_holds) B.pre w (List.mem_cons_of_mem _ h)
  have hown : s.vm.findClass "SlippedStreamsModel" = some m.cls := findClass_of_methodNamed B.named
  have hlocks := B.notSynchronized
  subst hsz
  have hD := hD0.self (sz := s.heap.size)
  generalize hAe : va_A (wM cI cZ ad z0) s.heap.size = A at hD ⊢
  have hA : ∀ q : Nat, s.heap.size ≤ q → A q := fun q h => by rw [← hAe]; exact Or.inr h
  have hS : va_S A s.heap s.heap [] := va_S.rf
  have hK := hKK.1
  have hl := lv_entry ([.int x1, .int x2, .int x3]) (n := 3) (Nat.le_of_ble_eq_true rfl)
  rw [lg_entry_eq]
  generalize (lg_sl ([.int x1, .int x2, .int x3]) ++ List.replicate (3 - (lg_sl ([.int x1, .int x2, .int x3])).length) Slot.unset).toArray = ls at hl ⊢
  have hl : lv_has ls 3 [(0, .int x1), (1, .int x2), (2, .int x3)] := hl
  unfold m_holds at h
  refine lv_iload_n hx hb d_SlippedStreamsModel_holds_0 rfl (lv_at hl 0 rfl) ?_
  refine lv_bipush (v := 6) hx hb d_SlippedStreamsModel_holds_1 (by decide) ?_
  refine lv_icmp_ne (tgt := 19) hx hb d_SlippedStreamsModel_holds_3 (by decide) (fun hc => ?_) (fun hc => ?_)
  · replace h := if_f hc h
    refine lv_iload_n hx hb d_SlippedStreamsModel_holds_19 rfl (lv_at hl 1 rfl) ?_
    refine lv_iload_n hx hb d_SlippedStreamsModel_holds_20 rfl (lv_at hl 2 rfl) ?_
    refine lv_icmp_eq (tgt := 28) hx hb d_SlippedStreamsModel_holds_21 (by decide) (fun hc => ?_) (fun hc => ?_)
    · replace h := if_t hc h
      refine lv_iconst (v := 0) hx hb d_SlippedStreamsModel_holds_28 (by decide) ?_
      exact q_zret hx hb hr hlocks h hP hD hS d_SlippedStreamsModel_holds_29
    · replace h := if_f hc h
      refine lv_iconst (v := 1) hx hb d_SlippedStreamsModel_holds_24 (by decide) ?_
      refine lv_goto (tgt := 29) hx hb d_SlippedStreamsModel_holds_25 (by decide) ?_
      exact q_zret hx hb hr hlocks h hP hD hS d_SlippedStreamsModel_holds_29
  · replace h := if_t hc h
    refine lv_iload_n hx hb d_SlippedStreamsModel_holds_6 rfl (lv_at hl 1 rfl) ?_
    refine lv_iload_n hx hb d_SlippedStreamsModel_holds_7 rfl (lv_at hl 2 rfl) ?_
    refine lv_icmp_ge (tgt := 15) hx hb d_SlippedStreamsModel_holds_8 (by decide) (fun hc => ?_) (fun hc => ?_)
    · replace h := if_t hc h
      refine lv_iconst (v := 0) hx hb d_SlippedStreamsModel_holds_15 (by decide) ?_
      refine lv_goto (tgt := 29) hx hb d_SlippedStreamsModel_holds_16 (by decide) ?_
      exact q_zret hx hb hr hlocks h hP hD hS d_SlippedStreamsModel_holds_29
    · replace h := if_f hc h
      refine lv_iconst (v := 1) hx hb d_SlippedStreamsModel_holds_11 (by decide) ?_
      refine lv_goto (tgt := 29) hx hb d_SlippedStreamsModel_holds_12 (by decide) ?_
      exact q_zret hx hb hr hlocks h hP hD hS d_SlippedStreamsModel_holds_29
def m_hand_g0 (k : Nat → ST → Int32 → Int32 → OR) (z0 : ST) (y1 y2 : Int32) : OR := k 1 z0 y1 0
def m_hand_g2 (k : Nat → ST → Int32 → Int32 → OR) (z0 : ST) (y1 y2 : Int32) : OR := obn (m_howMany z0 y1) (fun r1 z1 => if r1 ≤ y2 then (some (0, z1)) else (obn (m_handed z1 y1 y2) (fun r2 z2 => gin r2 16 (obn (m_put z2 4 (z2.2 5 r2.toNatClampNeg)) (fun r3 z3 => k 1 z3 y1 (y2 + 1))))))
def m_hand_g (k : Nat → ST → Int32 → Int32 → OR) (n : Nat) : ST → Int32 → Int32 → OR := match n with
  | 0 => m_hand_g0 k
  | 1 => m_hand_g2 k
  | _ => fun _ _ _ => none
def m_hand_f : Nat → Nat → ST → Int32 → Int32 → OR
  | 0 => fun _ _ _ _ => none
  | n + 1 => m_hand_g (m_hand_f n)
def m_hand (z0 : ST) (x1 : Int32) : OR := m_hand_f 4000 0 z0 x1 0
set_option maxRecDepth 100000 in
set_option maxHeartbeats 4000000 in
theorem c_m_hand (l : Launch) (dC : Nat → ClassId) (dI : Nat → Nat → Nat) (cI cZ : ClassId) (ad : Nat → Nat) (z0 : ST) (x1 : Int32) (R : Int32 × ST) (h : m_hand z0 x1 = some R) : qMv l y_SlippedStreamsModel_hand w_SlippedStreamsModel_hand 4 90 (KX dC dI cI cZ) (dC, dI) q_cl (wM cI cZ ad) [.ref (ad 0), .int x1] z0 R := by
  intro sz
  refine Met.ofW (cc := b_SlippedStreamsModel_hand) (maxL := 3) (ret := none) (by decide) rfl ?_
  intro p e s m args below meth c s₁ B hml hv
  obtain ⟨rfl, hsz, hP, hKK, hD0⟩ := hv
  have hx := B.exec
  have hb := B.bytes
  have hr := B.returns
  have hts : ∀ w ∈ q_big, w.before _ s = true := fun w h => atoms_spec (ws := w_SlippedStreamsModel_hand) B.pre w (List.mem_cons_of_mem _ h)
  have hown : s.vm.findClass "SlippedStreamsModel" = some m.cls := findClass_of_methodNamed B.named
  have hlocks := B.notSynchronized
  subst hsz
  have hD := hD0.self (sz := s.heap.size)
  generalize hAe : va_A (wM cI cZ ad z0) s.heap.size = A at hD ⊢
  have hA : ∀ q : Nat, s.heap.size ≤ q → A q := fun q h => by rw [← hAe]; exact Or.inr h
  have hS : va_S A s.heap s.heap [] := va_S.rf
  have hK := hKK.1
  have hl := lv_entry ([.ref (ad 0), .int x1]) (n := 3) (Nat.le_of_ble_eq_true rfl)
  rw [lg_entry_eq]
  generalize (lg_sl ([.ref (ad 0), .int x1]) ++ List.replicate (3 - (lg_sl ([.ref (ad 0), .int x1])).length) Slot.unset).toArray = ls at hl ⊢
  have hl : lv_has ls 3 [(0, .ref (ad 0)), (1, .int x1)] := hl
  have key : ∀ n : Nat, (∀ (z0 : ST) (y1 y2 : Int32) (H : Heap) (locs : List Loc) (ls : Array Slot), m_hand_f n 0 z0 y1 y2 = some R → va_P (dC, dI) q_cl (wM cI cZ ad z0) H → va_D A (wM cI cZ ad z0) → va_S A s.heap H locs → lv_has ls 3 [(0, .ref (ad 0)), (1, .int y1)] → qWv p l e w_SlippedStreamsModel_hand 4 90 s m [.ref (ad 0), .int x1] below meth c (dC, dI) q_cl (wM cI cZ ad) A R H locs (F0 m 0 ls [])) ∧ (∀ (z0 : ST) (y1 y2 : Int32) (H : Heap) (locs : List Loc) (ls : Array Slot), m_hand_f n 1 z0 y1 y2 = some R → va_P (dC, dI) q_cl (wM cI cZ ad z0) H → va_D A (wM cI cZ ad z0) → va_S A s.heap H locs → lv_has ls 3 [(0, .ref (ad 0)), (1, .int y1), (2, .int y2)] → qWv p l e w_SlippedStreamsModel_hand 4 90 s m [.ref (ad 0), .int x1] below meth c (dC, dI) q_cl (wM cI cZ ad) A R H locs (F0 m 2 ls [])) := by
    intro n
    induction n with
    | zero => exact ⟨fun z0 y1 y2 H locs ls h hP hD hS hl => (by cases h), fun z0 y1 y2 H locs ls h hP hD hS hl => (by cases h)⟩
    | succ n ih =>
      obtain ⟨jp_0, jp_2⟩ := ih
      refine ⟨?_, ?_⟩
      · intro z0 y1 y2 H locs ls h hP hD hS hl
        replace h : m_hand_g0 (m_hand_f n) z0 y1 y2 = some R := h
        unfold m_hand_g0 at h
        refine lv_iconst (v := 0) hx hb d_SlippedStreamsModel_hand_0 (by decide) ?_
        refine lv_istore_n (lv' := [(2, .int 0), (0, .ref (ad 0)), (1, .int y1)]) hx hb d_SlippedStreamsModel_hand_1 rfl hl (by decide) rfl (fun ls hl => ?_)
        exact jp_2 z0 y1 0 _ _ _ h hP hD hS (lv_sub hl [1, 2, 0] rfl)
      · intro z0 y1 y2 H locs ls h hP hD hS hl
        replace h : m_hand_g2 (m_hand_f n) z0 y1 y2 = some R := h
        unfold m_hand_g2 at h
        refine lv_iload_n hx hb d_SlippedStreamsModel_hand_2 rfl (lv_at hl 2 rfl) ?_
        refine lv_aload_n hx hb d_SlippedStreamsModel_hand_3 rfl (lv_at hl 0 rfl) ?_
        refine lv_iload_n hx hb d_SlippedStreamsModel_hand_4 rfl (lv_at hl 1 rfl) ?_
        obtain ⟨r1, z1, hc1, h⟩ := obn_e h
        refine q_goi (va_runV (As := [.int y1]) (rest := [.int y2]) ⟨hx, hb, hml, hown, hts⟩ (c_m_howMany l dC dI cI cZ ad z0 y1 _ hc1 _) (cwV 1 hts (q_goodL _ (q_l4 k_929 k_931 k_32 k_64) k_932) rfl rfl rfl (by decide +kernel) ⟨Nat.le_of_ble_eq_true rfl, Nat.le_of_ble_eq_true rfl⟩) (q_preV qok hKK hP hD (va_recv (ci := 9) (q0 := 0) hK hP rfl rfl)) rfl rfl hl.1 rfl (lv_room (Nat.le_of_ble_eq_true rfl)) d_SlippedStreamsModel_hand_5 ⟨Nat.le_refl _, Nat.le_refl _⟩) hD hS hA (fun H locs hP hD hS => ?_)
        refine lv_icmp_ge (tgt := 33) hx hb d_SlippedStreamsModel_hand_8 (by decide) (fun hc => ?_) (fun hc => ?_)
        · replace h := if_t hc h
          exact q_vret hx hb hr hlocks h hP hD hS d_SlippedStreamsModel_hand_33
        · replace h := if_f hc h
          refine lv_aload_n hx hb d_SlippedStreamsModel_hand_11 rfl (lv_at hl 0 rfl) ?_
          refine lv_iconst (v := 4) hx hb d_SlippedStreamsModel_hand_12 (by decide) ?_
          refine lv_aload_n hx hb d_SlippedStreamsModel_hand_13 rfl (lv_at hl 0 rfl) ?_
          refine mg_0_registers hx hb hts hin_SlippedStreamsModel hown hK hP (hts _ k_821) (fun _ h9 => h9) d_SlippedStreamsModel_hand_14 ?_
          refine lv_aload_n hx hb d_SlippedStreamsModel_hand_17 rfl (lv_at hl 0 rfl) ?_
          refine lv_iload_n hx hb d_SlippedStreamsModel_hand_18 rfl (lv_at hl 1 rfl) ?_
          refine lv_iload_n hx hb d_SlippedStreamsModel_hand_19 rfl (lv_at hl 2 rfl) ?_
          obtain ⟨r2, z2, hc2, h⟩ := obn_e h
          refine q_goi (va_runV (As := [.int y1, .int y2]) (rest := [.ref (ad 6), .int 4, .ref (ad 0)]) ⟨hx, hb, hml, hown, hts⟩ (c_m_handed l dC dI cI cZ ad z1 y1 y2 _ hc2 _) (cwV 2 hts (q_goodL _ (q_l4 k_933 k_935 k_33 k_64) k_936) rfl rfl rfl (by decide +kernel) ⟨Nat.le_of_ble_eq_true rfl, Nat.le_of_ble_eq_true rfl⟩) (q_preV qok hKK hP hD (va_recv (ci := 9) (q0 := 0) hK hP rfl rfl)) rfl rfl hl.1 rfl (lv_room (Nat.le_of_ble_eq_true rfl)) d_SlippedStreamsModel_hand_20 ⟨Nat.le_refl _, Nat.le_refl _⟩) hD hS hA (fun H locs hP hD hS => ?_)
          obtain ⟨hi, h⟩ := gin_e h
          refine ml_5 hx hb hK hP hi d_SlippedStreamsModel_hand_23 ?_
          obtain ⟨r3, z3, hc3, h⟩ := obn_e h
          refine q_gov (va_runV (As := [.int 4, .int (z2.2 5 r2.toNatClampNeg)]) (rest := []) ⟨hx, hb, hml, hown, hts⟩ (c_m_put l dC dI cI cZ ad z2 4 (z2.2 5 r2.toNatClampNeg) _ hc3 _) (cwV 2 hts (q_goodL _ (q_l4 k_973 k_975 k_39 k_64) k_976) rfl rfl rfl (by decide +kernel) ⟨Nat.le_of_ble_eq_true rfl, Nat.le_of_ble_eq_true rfl⟩) (q_preV qok hKK hP hD (va_recv (ci := 9) (q0 := 0) hK hP rfl rfl)) rfl rfl hl.1 rfl (lv_room (Nat.le_of_ble_eq_true rfl)) d_SlippedStreamsModel_hand_24 ⟨Nat.le_refl _, Nat.le_refl _⟩) hD hS hA (fun H locs hP hD hS => ?_)
          refine lv_iinc (k := 2) (v := y2 + 1) (lv' := [(2, .int (y2 + 1)), (0, .ref (ad 0)), (1, .int y1)]) hx hb d_SlippedStreamsModel_hand_27 hl rfl rfl (by decide) rfl (fun ls hl => ?_)
          refine lv_goto (tgt := 2) hx hb d_SlippedStreamsModel_hand_30 (by decide) ?_
          exact jp_2 z3 y1 (y2 + 1) _ _ _ h hP hD hS (lv_sub hl [1, 2, 0] rfl)
  exact (key 4000).1 z0 x1 0 _ _ _ h hP hD hS (lv_sub hl [0, 1] rfl)
def m_take_g0 (k : Nat → ST → Int32 → Int32 → Int32 → OR) (z0 : ST) (y1 y2 y3 : Int32) : OR := gin (6 * y1) 30 (gin y1 5 (gin y1 5 (bnd (stA z0 10 (upd (z0.2 10) y1.toNatClampNeg ((z0.2 10 y1.toNatClampNeg) - 1))) (fun z1 => k 1 z1 y1 (z0.2 9 (6 * y1).toNatClampNeg) 0))))
def m_take_g26 (k : Nat → ST → Int32 → Int32 → Int32 → OR) (z0 : ST) (y1 y2 y3 : Int32) : OR := gin y1 5 (if (z0.2 10 y1.toNatClampNeg) ≤ y3 then (some (y2, z0)) else (gin (((6 * y1) + y3) + 1) 30 (gin ((6 * y1) + y3) 30 (bnd (stA z0 9 (upd (z0.2 9) ((6 * y1) + y3).toNatClampNeg (z0.2 9 (((6 * y1) + y3) + 1).toNatClampNeg))) (fun z2 => k 1 z2 y1 y2 (y3 + 1))))))
def m_take_g (k : Nat → ST → Int32 → Int32 → Int32 → OR) (n : Nat) : ST → Int32 → Int32 → Int32 → OR := match n with
  | 0 => m_take_g0 k
  | 1 => m_take_g26 k
  | _ => fun _ _ _ _ => none
def m_take_f : Nat → Nat → ST → Int32 → Int32 → Int32 → OR
  | 0 => fun _ _ _ _ _ => none
  | n + 1 => m_take_g (m_take_f n)
def m_take (z0 : ST) (x1 : Int32) : OR := m_take_f 4000 0 z0 x1 0 0
set_option maxRecDepth 100000 in
set_option maxHeartbeats 4000000 in
theorem c_m_take (l : Launch) (dC : Nat → ClassId) (dI : Nat → Nat → Nat) (cI cZ : ClassId) (ad : Nat → Nat) (z0 : ST) (x1 : Int32) (R : Int32 × ST) (h : m_take z0 x1 = some R) : qMi l y_SlippedStreamsModel_take w_SlippedStreamsModel_take 0 0 (KX dC dI cI cZ) (dC, dI) q_cl (wM cI cZ ad) [.ref (ad 0), .int x1] z0 R := by
  intro sz
  refine Met.ofW (cc := b_SlippedStreamsModel_take) (maxL := 4) (ret := (some .int)) (by decide) rfl ?_
  intro p e s m args below meth c s₁ B hml hv
  obtain ⟨rfl, hsz, hP, hKK, hD0⟩ := hv
  have hx := B.exec
  have hb := B.bytes
  have hr := B.returns
  have hts : ∀ w ∈ q_big, w.before _ s = true := fun w h => atoms_spec (ws := w_SlippedStreamsModel_take) B.pre w (List.mem_cons_of_mem _ h)
  have hown : s.vm.findClass "SlippedStreamsModel" = some m.cls := findClass_of_methodNamed B.named
  have hlocks := B.notSynchronized
  subst hsz
  have hD := hD0.self (sz := s.heap.size)
  generalize hAe : va_A (wM cI cZ ad z0) s.heap.size = A at hD ⊢
  have hA : ∀ q : Nat, s.heap.size ≤ q → A q := fun q h => by rw [← hAe]; exact Or.inr h
  have hS : va_S A s.heap s.heap [] := va_S.rf
  have hK := hKK.1
  have hl := lv_entry ([.ref (ad 0), .int x1]) (n := 4) (Nat.le_of_ble_eq_true rfl)
  rw [lg_entry_eq]
  generalize (lg_sl ([.ref (ad 0), .int x1]) ++ List.replicate (4 - (lg_sl ([.ref (ad 0), .int x1])).length) Slot.unset).toArray = ls at hl ⊢
  have hl : lv_has ls 4 [(0, .ref (ad 0)), (1, .int x1)] := hl
  have key : ∀ n : Nat, (∀ (z0 : ST) (y1 y2 y3 : Int32) (H : Heap) (locs : List Loc) (ls : Array Slot), m_take_f n 0 z0 y1 y2 y3 = some R → va_P (dC, dI) q_cl (wM cI cZ ad z0) H → va_D A (wM cI cZ ad z0) → va_S A s.heap H locs → lv_has ls 4 [(0, .ref (ad 0)), (1, .int y1)] → qWi p l e w_SlippedStreamsModel_take 0 0 s m [.ref (ad 0), .int x1] below meth c (dC, dI) q_cl (wM cI cZ ad) A R H locs (F0 m 0 ls [])) ∧ (∀ (z0 : ST) (y1 y2 y3 : Int32) (H : Heap) (locs : List Loc) (ls : Array Slot), m_take_f n 1 z0 y1 y2 y3 = some R → va_P (dC, dI) q_cl (wM cI cZ ad z0) H → va_D A (wM cI cZ ad z0) → va_S A s.heap H locs → lv_has ls 4 [(0, .ref (ad 0)), (1, .int y1), (2, .int y2), (3, .int y3)] → qWi p l e w_SlippedStreamsModel_take 0 0 s m [.ref (ad 0), .int x1] below meth c (dC, dI) q_cl (wM cI cZ ad) A R H locs (F0 m 26 ls [])) := by
    intro n
    induction n with
    | zero => exact ⟨fun z0 y1 y2 y3 H locs ls h hP hD hS hl => (by cases h), fun z0 y1 y2 y3 H locs ls h hP hD hS hl => (by cases h)⟩
    | succ n ih =>
      obtain ⟨jp_0, jp_26⟩ := ih
      refine ⟨?_, ?_⟩
      · intro z0 y1 y2 y3 H locs ls h hP hD hS hl
        replace h : m_take_g0 (m_take_f n) z0 y1 y2 y3 = some R := h
        unfold m_take_g0 at h
        refine lv_aload_n hx hb d_SlippedStreamsModel_take_0 rfl (lv_at hl 0 rfl) ?_
        refine mg_0_queues hx hb hts hin_SlippedStreamsModel hown hK hP (hts _ k_828) (fun _ h9 => h9) d_SlippedStreamsModel_take_1 ?_
        refine lv_bipush (v := 6) hx hb d_SlippedStreamsModel_take_4 (by decide) ?_
        refine lv_iload_n hx hb d_SlippedStreamsModel_take_6 rfl (lv_at hl 1 rfl) ?_
        refine lv_imul hx hb d_SlippedStreamsModel_take_7 ?_
        obtain ⟨hi, h⟩ := gin_e h
        refine ml_9 hx hb hK hP hi d_SlippedStreamsModel_take_8 ?_
        refine lv_istore_n (lv' := [(2, .int (z0.2 9 (6 * y1).toNatClampNeg)), (0, .ref (ad 0)), (1, .int y1)]) hx hb d_SlippedStreamsModel_take_9 rfl hl (by decide) rfl (fun ls hl => ?_)
        refine lv_aload_n hx hb d_SlippedStreamsModel_take_10 rfl (lv_at hl 1 rfl) ?_
        refine mg_0_lengths hx hb hts hin_SlippedStreamsModel hown hK hP (hts _ k_829) (fun _ h9 => h9) d_SlippedStreamsModel_take_11 ?_
        refine lv_iload_n hx hb d_SlippedStreamsModel_take_14 rfl (lv_at hl 2 rfl) ?_
        refine lv_aload_n hx hb d_SlippedStreamsModel_take_15 rfl (lv_at hl 1 rfl) ?_
        refine mg_0_lengths hx hb hts hin_SlippedStreamsModel hown hK hP (hts _ k_829) (fun _ h9 => h9) d_SlippedStreamsModel_take_16 ?_
        refine lv_iload_n hx hb d_SlippedStreamsModel_take_19 rfl (lv_at hl 2 rfl) ?_
        obtain ⟨hi, h⟩ := gin_e h
        refine ml_10 hx hb hK hP hi d_SlippedStreamsModel_take_20 ?_
        refine lv_iconst (v := 1) hx hb d_SlippedStreamsModel_take_21 (by decide) ?_
        refine lv_isub hx hb d_SlippedStreamsModel_take_22 ?_
        obtain ⟨hi, h⟩ := gin_e h
        obtain ⟨z1, e1, h⟩ := bnd_e h
        refine ms_10 hx hb hK hP hD hS hi d_SlippedStreamsModel_take_23 e1 (fun H locs hP hD hS => ?_)
        refine lv_iconst (v := 0) hx hb d_SlippedStreamsModel_take_24 (by decide) ?_
        refine lv_istore_n (lv' := [(3, .int 0), (2, .int (z0.2 9 (6 * y1).toNatClampNeg)), (0, .ref (ad 0)), (1, .int y1)]) hx hb d_SlippedStreamsModel_take_25 rfl hl (by decide) rfl (fun ls hl => ?_)
        exact jp_26 z1 y1 (z0.2 9 (6 * y1).toNatClampNeg) 0 _ _ _ h hP hD hS (lv_sub hl [2, 3, 1, 0] rfl)
      · intro z0 y1 y2 y3 H locs ls h hP hD hS hl
        replace h : m_take_g26 (m_take_f n) z0 y1 y2 y3 = some R := h
        unfold m_take_g26 at h
        refine lv_iload_n hx hb d_SlippedStreamsModel_take_26 rfl (lv_at hl 3 rfl) ?_
        refine lv_aload_n hx hb d_SlippedStreamsModel_take_27 rfl (lv_at hl 0 rfl) ?_
        refine mg_0_lengths hx hb hts hin_SlippedStreamsModel hown hK hP (hts _ k_829) (fun _ h9 => h9) d_SlippedStreamsModel_take_28 ?_
        refine lv_iload_n hx hb d_SlippedStreamsModel_take_31 rfl (lv_at hl 1 rfl) ?_
        obtain ⟨hi, h⟩ := gin_e h
        refine ml_10 hx hb hK hP hi d_SlippedStreamsModel_take_32 ?_
        refine lv_icmp_ge (tgt := 66) hx hb d_SlippedStreamsModel_take_33 (by decide) (fun hc => ?_) (fun hc => ?_)
        · replace h := if_t hc h
          refine lv_iload_n hx hb d_SlippedStreamsModel_take_66 rfl (lv_at hl 2 rfl) ?_
          exact q_iret hx hb hr hlocks h hP hD hS d_SlippedStreamsModel_take_67
        · replace h := if_f hc h
          refine lv_aload_n hx hb d_SlippedStreamsModel_take_36 rfl (lv_at hl 0 rfl) ?_
          refine mg_0_queues hx hb hts hin_SlippedStreamsModel hown hK hP (hts _ k_828) (fun _ h9 => h9) d_SlippedStreamsModel_take_37 ?_
          refine lv_bipush (v := 6) hx hb d_SlippedStreamsModel_take_40 (by decide) ?_
          refine lv_iload_n hx hb d_SlippedStreamsModel_take_42 rfl (lv_at hl 1 rfl) ?_
          refine lv_imul hx hb d_SlippedStreamsModel_take_43 ?_
          refine lv_iload_n hx hb d_SlippedStreamsModel_take_44 rfl (lv_at hl 3 rfl) ?_
          refine lv_iadd hx hb d_SlippedStreamsModel_take_45 ?_
          refine lv_aload_n hx hb d_SlippedStreamsModel_take_46 rfl (lv_at hl 0 rfl) ?_
          refine mg_0_queues hx hb hts hin_SlippedStreamsModel hown hK hP (hts _ k_828) (fun _ h9 => h9) d_SlippedStreamsModel_take_47 ?_
          refine lv_bipush (v := 6) hx hb d_SlippedStreamsModel_take_50 (by decide) ?_
          refine lv_iload_n hx hb d_SlippedStreamsModel_take_52 rfl (lv_at hl 1 rfl) ?_
          refine lv_imul hx hb d_SlippedStreamsModel_take_53 ?_
          refine lv_iload_n hx hb d_SlippedStreamsModel_take_54 rfl (lv_at hl 3 rfl) ?_
          refine lv_iadd hx hb d_SlippedStreamsModel_take_55 ?_
          refine lv_iconst (v := 1) hx hb d_SlippedStreamsModel_take_56 (by decide) ?_
          refine lv_iadd hx hb d_SlippedStreamsModel_take_57 ?_
          obtain ⟨hi, h⟩ := gin_e h
          refine ml_9 hx hb hK hP hi d_SlippedStreamsModel_take_58 ?_
          obtain ⟨hi, h⟩ := gin_e h
          obtain ⟨z2, e2, h⟩ := bnd_e h
          refine ms_9 hx hb hK hP hD hS hi d_SlippedStreamsModel_take_59 e2 (fun H locs hP hD hS => ?_)
          refine lv_iinc (k := 3) (v := y3 + 1) (lv' := [(3, .int (y3 + 1)), (0, .ref (ad 0)), (1, .int y1), (2, .int y2)]) hx hb d_SlippedStreamsModel_take_60 hl rfl rfl (by decide) rfl (fun ls hl => ?_)
          refine lv_goto (tgt := 26) hx hb d_SlippedStreamsModel_take_63 (by decide) ?_
          exact jp_26 z2 y1 y2 (y3 + 1) _ _ _ h hP hD hS (lv_sub hl [1, 2, 3, 0] rfl)
  exact (key 4000).1 z0 x1 0 0 _ _ _ h hP hD hS (lv_sub hl [0, 1] rfl)
def m_follow_85 (z0 : ST) (y1 y2 y3 y4 : Int32) : OR := obn (m_leave z0 y3 y4) (fun r1 z1 => gib 1 (some (1, z1)))
def m_follow_41 (z0 : ST) (y1 y2 : Int32) : OR := gin 3 5 (if (z0.2 10 (3 : Int32).toNatClampNeg) = 0 then (gib 1 (bnd (stI z0 5 1) (fun z4 => gib 0 (some (0, z4))))) else (gib 0 (bnd (stI z0 3 0) (fun z2 => obn (m_take z2 3) (fun r3 z3 => if r3 = 1 then (gin y1 24 (m_follow_85 z3 y1 y2 0 (z3.2 3 y1.toNatClampNeg))) else (m_follow_85 z3 y1 y2 0 (y1 + 1)))))))
def m_follow (z0 : ST) (x1 : Int32) : OR := obn (m_howMany z0 x1) (fun r5 z5 => if r5 ≤ 0 then (m_follow_41 z5 x1 r5) else (if (z5.1 3) = 0 then (obn (m_hasRoom z5 4 r5) (fun r6 z6 => if r6 = 0 then (gib (z6.1 3) (some (z6.1 3, z6))) else (obn (m_hand z6 x1) (fun r7 z7 => gib 1 (bnd (stI z7 3 1) (fun z8 => gib (z8.1 3) (some (z8.1 3, z8)))))))) else (m_follow_41 z5 x1 r5)))
set_option maxRecDepth 100000 in
set_option maxHeartbeats 4000000 in
theorem c_m_follow (l : Launch) (dC : Nat → ClassId) (dI : Nat → Nat → Nat) (cI cZ : ClassId) (ad : Nat → Nat) (z0 : ST) (x1 : Int32) (R : Int32 × ST) (h : m_follow z0 x1 = some R) : qMi l y_SlippedStreamsModel_follow w_SlippedStreamsModel_follow 7 156 (KX dC dI cI cZ) (dC, dI) q_cl (wM cI cZ ad) [.ref (ad 0), .int x1] z0 R := by
  intro sz
  refine Met.ofW (cc := b_SlippedStreamsModel_follow) (maxL := 3) (ret := (some .boolean)) (by decide) rfl ?_
  intro p e s m args below meth c s₁ B hml hv
  obtain ⟨rfl, hsz, hP, hKK, hD0⟩ := hv
  have hx := B.exec
  have hb := B.bytes
  have hr := B.returns
  have hts : ∀ w ∈ q_big, w.before _ s = true := fun w h => atoms_spec (ws := w_SlippedStreamsModel_follow) B.pre w (List.mem_cons_of_mem _ h)
  have hown : s.vm.findClass "SlippedStreamsModel" = some m.cls := findClass_of_methodNamed B.named
  have hlocks := B.notSynchronized
  subst hsz
  have hD := hD0.self (sz := s.heap.size)
  generalize hAe : va_A (wM cI cZ ad z0) s.heap.size = A at hD ⊢
  have hA : ∀ q : Nat, s.heap.size ≤ q → A q := fun q h => by rw [← hAe]; exact Or.inr h
  have hS : va_S A s.heap s.heap [] := va_S.rf
  have hK := hKK.1
  have hl := lv_entry ([.ref (ad 0), .int x1]) (n := 3) (Nat.le_of_ble_eq_true rfl)
  rw [lg_entry_eq]
  generalize (lg_sl ([.ref (ad 0), .int x1]) ++ List.replicate (3 - (lg_sl ([.ref (ad 0), .int x1])).length) Slot.unset).toArray = ls at hl ⊢
  have hl : lv_has ls 3 [(0, .ref (ad 0)), (1, .int x1)] := hl
  have jp_85 : ∀ (z0 : ST) (y1 y2 y3 y4 : Int32) (H : Heap) (locs : List Loc) (ls : Array Slot), m_follow_85 z0 y1 y2 y3 y4 = some R → va_P (dC, dI) q_cl (wM cI cZ ad z0) H → va_D A (wM cI cZ ad z0) → va_S A s.heap H locs → lv_has ls 3 [(0, .ref (ad 0)), (1, .int y1), (2, .int y2)] → qWi p l e w_SlippedStreamsModel_follow 7 156 s m [.ref (ad 0), .int x1] below meth c (dC, dI) q_cl (wM cI cZ ad) A R H locs (F0 m 85 ls [.int y4, .int y3, .ref (ad 0)]) := by
    intro z0 y1 y2 y3 y4 H locs ls h hP hD hS hl
    unfold m_follow_85 at h
    obtain ⟨r1, z1, hc1, h⟩ := obn_e h
    refine q_gov (va_runV (As := [.int y3, .int y4]) (rest := []) ⟨hx, hb, hml, hown, hts⟩ (c_m_leave l dC dI cI cZ ad z0 y3 y4 _ hc1 _) (cwV 2 hts (q_goodL _ (q_l4 k_977 k_979 k_40 k_64) k_980) rfl rfl rfl (by decide +kernel) ⟨Nat.le_of_ble_eq_true rfl, Nat.le_of_ble_eq_true rfl⟩) (q_preV qok hKK hP hD (va_recv (ci := 9) (q0 := 0) hK hP rfl rfl)) rfl rfl hl.1 rfl (lv_room (Nat.le_of_ble_eq_true rfl)) d_SlippedStreamsModel_follow_85 ⟨Nat.le_refl _, Nat.le_refl _⟩) hD hS hA (fun H locs hP hD hS => ?_)
    refine lv_iconst (v := 1) hx hb d_SlippedStreamsModel_follow_88 (by decide) ?_
    exact q_zret hx hb hr hlocks h hP hD hS d_SlippedStreamsModel_follow_89
  have jp_41 : ∀ (z0 : ST) (y1 y2 : Int32) (H : Heap) (locs : List Loc) (ls : Array Slot), m_follow_41 z0 y1 y2 = some R → va_P (dC, dI) q_cl (wM cI cZ ad z0) H → va_D A (wM cI cZ ad z0) → va_S A s.heap H locs → lv_has ls 3 [(0, .ref (ad 0)), (1, .int y1), (2, .int y2)] → qWi p l e w_SlippedStreamsModel_follow 7 156 s m [.ref (ad 0), .int x1] below meth c (dC, dI) q_cl (wM cI cZ ad) A R H locs (F0 m 41 ls []) := by
    intro z0 y1 y2 H locs ls h hP hD hS hl
    unfold m_follow_41 at h
    refine lv_aload_n hx hb d_SlippedStreamsModel_follow_41 rfl (lv_at hl 0 rfl) ?_
    refine mg_0_lengths hx hb hts hin_SlippedStreamsModel hown hK hP (hts _ k_829) (fun _ h9 => h9) d_SlippedStreamsModel_follow_42 ?_
    refine lv_iconst (v := 3) hx hb d_SlippedStreamsModel_follow_45 (by decide) ?_
    obtain ⟨hi, h⟩ := gin_e h
    refine ml_10 hx hb hK hP hi d_SlippedStreamsModel_follow_46 ?_
    refine lv_if_ne (tgt := 57) hx hb d_SlippedStreamsModel_follow_47 (by decide) (fun hc => ?_) (fun hc => ?_)
    · replace h := if_f hc h
      refine lv_aload_n hx hb d_SlippedStreamsModel_follow_57 rfl (lv_at hl 0 rfl) ?_
      refine lv_iconst (v := 0) hx hb d_SlippedStreamsModel_follow_58 (by decide) ?_
      obtain ⟨hv, h⟩ := gib_e h
      obtain ⟨z2, e2, h⟩ := bnd_e h
      refine mp_0_sent hx hb hts hin_SlippedStreamsModel hown hK hP hD hS (hts _ k_824) (fun _ h9 => h9) hv d_SlippedStreamsModel_follow_59 e2 (fun H locs hP hD hS => ?_)
      refine lv_aload_n hx hb d_SlippedStreamsModel_follow_62 rfl (lv_at hl 0 rfl) ?_
      refine lv_iconst (v := 0) hx hb d_SlippedStreamsModel_follow_63 (by decide) ?_
      refine lv_aload_n hx hb d_SlippedStreamsModel_follow_64 rfl (lv_at hl 0 rfl) ?_
      refine lv_iconst (v := 3) hx hb d_SlippedStreamsModel_follow_65 (by decide) ?_
      obtain ⟨r3, z3, hc3, h⟩ := obn_e h
      refine q_goi (va_runV (As := [.int 3]) (rest := [.int 0, .ref (ad 0)]) ⟨hx, hb, hml, hown, hts⟩ (c_m_take l dC dI cI cZ ad z2 3 _ hc3 _) (cwV 1 hts (q_goodL _ (q_l4 k_985 k_987 k_42 k_64) k_988) rfl rfl rfl (by decide +kernel) ⟨Nat.le_of_ble_eq_true rfl, Nat.le_of_ble_eq_true rfl⟩) (q_preV qok hKK hP hD (va_recv (ci := 9) (q0 := 0) hK hP rfl rfl)) rfl rfl hl.1 rfl (lv_room (Nat.le_of_ble_eq_true rfl)) d_SlippedStreamsModel_follow_66 ⟨Nat.le_refl _, Nat.le_refl _⟩) hD hS hA (fun H locs hP hD hS => ?_)
      refine lv_iconst (v := 1) hx hb d_SlippedStreamsModel_follow_69 (by decide) ?_
      refine lv_icmp_ne (tgt := 82) hx hb d_SlippedStreamsModel_follow_70 (by decide) (fun hc => ?_) (fun hc => ?_)
      · replace h := if_f hc h
        refine lv_iload_n hx hb d_SlippedStreamsModel_follow_82 rfl (lv_at hl 1 rfl) ?_
        refine lv_iconst (v := 1) hx hb d_SlippedStreamsModel_follow_83 (by decide) ?_
        refine lv_iadd hx hb d_SlippedStreamsModel_follow_84 ?_
        exact jp_85 z3 y1 y2 0 (y1 + 1) _ _ _ h hP hD hS (lv_sub hl [0, 1, 2] rfl)
      · replace h := if_t hc h
        refine lv_aload_n hx hb d_SlippedStreamsModel_follow_73 rfl (lv_at hl 0 rfl) ?_
        refine mg_0_cs hx hb hts hin_SlippedStreamsModel hown hK hP (hts _ k_817) (fun _ h9 => h9) d_SlippedStreamsModel_follow_74 ?_
        refine lv_iload_n hx hb d_SlippedStreamsModel_follow_77 rfl (lv_at hl 1 rfl) ?_
        obtain ⟨hi, h⟩ := gin_e h
        refine ml_3 hx hb hK hP hi d_SlippedStreamsModel_follow_78 ?_
        refine lv_goto (tgt := 85) hx hb d_SlippedStreamsModel_follow_79 (by decide) ?_
        exact jp_85 z3 y1 y2 0 (z3.2 3 y1.toNatClampNeg) _ _ _ h hP hD hS (lv_sub hl [0, 1, 2] rfl)
    · replace h := if_t hc h
      refine lv_aload_n hx hb d_SlippedStreamsModel_follow_50 rfl (lv_at hl 0 rfl) ?_
      refine lv_iconst (v := 1) hx hb d_SlippedStreamsModel_follow_51 (by decide) ?_
      obtain ⟨hv, h⟩ := gib_e h
      obtain ⟨z4, e4, h⟩ := bnd_e h
      refine mp_0_starved hx hb hts hin_SlippedStreamsModel hown hK hP hD hS (hts _ k_827) (fun _ h9 => h9) hv d_SlippedStreamsModel_follow_52 e4 (fun H locs hP hD hS => ?_)
      refine lv_iconst (v := 0) hx hb d_SlippedStreamsModel_follow_55 (by decide) ?_
      exact q_zret hx hb hr hlocks h hP hD hS d_SlippedStreamsModel_follow_56
  unfold m_follow at h
  refine lv_aload_n hx hb d_SlippedStreamsModel_follow_0 rfl (lv_at hl 0 rfl) ?_
  refine lv_iload_n hx hb d_SlippedStreamsModel_follow_1 rfl (lv_at hl 1 rfl) ?_
  obtain ⟨r5, z5, hc5, h⟩ := obn_e h
  refine q_goi (va_runV (As := [.int x1]) (rest := []) ⟨hx, hb, hml, hown, hts⟩ (c_m_howMany l dC dI cI cZ ad z0 x1 _ hc5 _) (cwV 1 hts (q_goodL _ (q_l4 k_929 k_931 k_32 k_64) k_932) rfl rfl rfl (by decide +kernel) ⟨Nat.le_of_ble_eq_true rfl, Nat.le_of_ble_eq_true rfl⟩) (q_preV qok hKK hP hD (va_recv (ci := 9) (q0 := 0) hK hP rfl rfl)) rfl rfl hl.1 rfl (lv_room (Nat.le_of_ble_eq_true rfl)) d_SlippedStreamsModel_follow_2 ⟨Nat.le_refl _, Nat.le_refl _⟩) hD hS hA (fun H locs hP hD hS => ?_)
  refine lv_istore_n (lv' := [(2, .int r5), (0, .ref (ad 0)), (1, .int x1)]) hx hb d_SlippedStreamsModel_follow_5 rfl hl (by decide) rfl (fun ls hl => ?_)
  refine lv_iload_n hx hb d_SlippedStreamsModel_follow_6 rfl (lv_at hl 0 rfl) ?_
  refine lv_if_le (tgt := 41) hx hb d_SlippedStreamsModel_follow_7 (by decide) (fun hc => ?_) (fun hc => ?_)
  · replace h := if_t hc h
    exact jp_41 z5 x1 r5 _ _ _ h hP hD hS (lv_sub hl [1, 2, 0] rfl)
  · replace h := if_f hc h
    refine lv_aload_n hx hb d_SlippedStreamsModel_follow_10 rfl (lv_at hl 1 rfl) ?_
    refine mg_0_sent hx hb hts hin_SlippedStreamsModel hown hK hP (hts _ k_824) (fun _ h9 => h9) d_SlippedStreamsModel_follow_11 ?_
    refine lv_if_ne (tgt := 41) hx hb d_SlippedStreamsModel_follow_14 (by decide) (fun hc => ?_) (fun hc => ?_)
    · replace h := if_f hc h
      exact jp_41 z5 x1 r5 _ _ _ h hP hD hS (lv_sub hl [1, 2, 0] rfl)
    · replace h := if_t hc h
      refine lv_aload_n hx hb d_SlippedStreamsModel_follow_17 rfl (lv_at hl 1 rfl) ?_
      refine lv_iconst (v := 4) hx hb d_SlippedStreamsModel_follow_18 (by decide) ?_
      refine lv_iload_n hx hb d_SlippedStreamsModel_follow_19 rfl (lv_at hl 0 rfl) ?_
      obtain ⟨r6, z6, hc6, h⟩ := obn_e h
      refine q_goi (va_runV (As := [.int 4, .int r5]) (rest := []) ⟨hx, hb, hml, hown, hts⟩ (c_m_hasRoom l dC dI cI cZ ad z5 4 r5 _ hc6 _) (cwV 2 hts (q_goodL _ (q_l4 k_969 k_971 k_38 k_64) k_972) rfl rfl rfl (by decide +kernel) ⟨Nat.le_of_ble_eq_true rfl, Nat.le_of_ble_eq_true rfl⟩) (q_preV qok hKK hP hD (va_recv (ci := 9) (q0 := 0) hK hP rfl rfl)) rfl rfl hl.1 rfl (lv_room (Nat.le_of_ble_eq_true rfl)) d_SlippedStreamsModel_follow_20 ⟨Nat.le_refl _, Nat.le_refl _⟩) hD hS hA (fun H locs hP hD hS => ?_)
      refine lv_if_eq (tgt := 36) hx hb d_SlippedStreamsModel_follow_23 (by decide) (fun hc => ?_) (fun hc => ?_)
      · replace h := if_t hc h
        refine lv_aload_n hx hb d_SlippedStreamsModel_follow_36 rfl (lv_at hl 1 rfl) ?_
        refine mg_0_sent hx hb hts hin_SlippedStreamsModel hown hK hP (hts _ k_824) (fun _ h9 => h9) d_SlippedStreamsModel_follow_37 ?_
        exact q_zret hx hb hr hlocks h hP hD hS d_SlippedStreamsModel_follow_40
      · replace h := if_f hc h
        refine lv_aload_n hx hb d_SlippedStreamsModel_follow_26 rfl (lv_at hl 1 rfl) ?_
        refine lv_iload_n hx hb d_SlippedStreamsModel_follow_27 rfl (lv_at hl 2 rfl) ?_
        obtain ⟨r7, z7, hc7, h⟩ := obn_e h
        refine q_gov (va_runV (As := [.int x1]) (rest := []) ⟨hx, hb, hml, hown, hts⟩ (c_m_hand l dC dI cI cZ ad z6 x1 _ hc7 _) (cwV 1 hts (q_goodL _ (q_l4 k_997 k_999 k_45 k_64) k_1000) rfl rfl rfl (by decide +kernel) ⟨Nat.le_of_ble_eq_true rfl, Nat.le_of_ble_eq_true rfl⟩) (q_preV qok hKK hP hD (va_recv (ci := 9) (q0 := 0) hK hP rfl rfl)) rfl rfl hl.1 rfl (lv_room (Nat.le_of_ble_eq_true rfl)) d_SlippedStreamsModel_follow_28 ⟨Nat.le_refl _, Nat.le_refl _⟩) hD hS hA (fun H locs hP hD hS => ?_)
        refine lv_aload_n hx hb d_SlippedStreamsModel_follow_31 rfl (lv_at hl 1 rfl) ?_
        refine lv_iconst (v := 1) hx hb d_SlippedStreamsModel_follow_32 (by decide) ?_
        obtain ⟨hv, h⟩ := gib_e h
        obtain ⟨z8, e8, h⟩ := bnd_e h
        refine mp_0_sent hx hb hts hin_SlippedStreamsModel hown hK hP hD hS (hts _ k_824) (fun _ h9 => h9) hv d_SlippedStreamsModel_follow_33 e8 (fun H locs hP hD hS => ?_)
        refine lv_aload_n hx hb d_SlippedStreamsModel_follow_36 rfl (lv_at hl 1 rfl) ?_
        refine mg_0_sent hx hb hts hin_SlippedStreamsModel hown hK hP (hts _ k_824) (fun _ h9 => h9) d_SlippedStreamsModel_follow_37 ?_
        exact q_zret hx hb hr hlocks h hP hD hS d_SlippedStreamsModel_follow_40
