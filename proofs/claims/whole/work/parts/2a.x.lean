def x_isRegister (z0 : ST) (x1 : Int32) : OR := if x1 < 0 then (gib 0 (some (0, z0))) else (if 8 ≤ x1 then (gib 0 (some (0, z0))) else (gib 1 (some (1, z0))))
set_option maxRecDepth 100000 in
set_option maxHeartbeats 4000000 in
theorem c_x_isRegister (l : Launch) (dC : Nat → ClassId) (dI : Nat → Nat → Nat) (cI cZ : ClassId) (ad : Nat → Nat) (z0 : ST) (x1 : Int32) (R : Int32 × ST) (h : x_isRegister z0 x1 = some R) : qMi l y_SlippedStreams_isRegister w_SlippedStreams_isRegister 0 0 (KX dC dI cI cZ) (dC, dI) q_cl (wX cI cZ ad) [.int x1] z0 R := by
  intro sz
  refine Met.ofW (cc := b_SlippedStreams_isRegister) (maxL := 1) (ret := (some .boolean)) (by decide) rfl ?_
  intro p e s m args below meth c s₁ B hml hv
  obtain ⟨rfl, hsz, hP, hKK, hD0⟩ := hv
  have hx := B.exec
  have hb := B.bytes
  have hr := B.returns
  have hts : ∀ w ∈ q_big, w.before _ s = true := fun w h => atoms_spec (ws := w_SlippedStreams_isRegister) B.pre w (List.mem_cons_of_mem _ h)
  have hown : s.vm.findClass "SlippedStreams" = some m.cls := findClass_of_methodNamed B.named
  have hlocks := B.notSynchronized
  subst hsz
  have hD := hD0.self (sz := s.heap.size)
  generalize hAe : va_A (wX cI cZ ad z0) s.heap.size = A at hD ⊢
  have hA : ∀ q : Nat, s.heap.size ≤ q → A q := fun q h => by rw [← hAe]; exact Or.inr h
  have hS : va_S A s.heap s.heap [] := va_S.rf
  have hK := hKK.1
  have hl := lv_entry ([.int x1]) (n := 1) (Nat.le_of_ble_eq_true rfl)
  rw [lg_entry_eq]
  generalize (lg_sl ([.int x1]) ++ List.replicate (1 - (lg_sl ([.int x1])).length) Slot.unset).toArray = ls at hl ⊢
  have hl : lv_has ls 1 [(0, .int x1)] := hl
  unfold x_isRegister at h
  refine lv_iload_n hx hb d_SlippedStreams_isRegister_0 rfl (lv_at hl 0 rfl) ?_
  refine lv_if_lt (tgt := 14) hx hb d_SlippedStreams_isRegister_1 (by decide) (fun hc => ?_) (fun hc => ?_)
  · replace h := if_t hc h
    refine lv_iconst (v := 0) hx hb d_SlippedStreams_isRegister_14 (by decide) ?_
    exact q_zret hx hb hr hlocks h hP hD hS d_SlippedStreams_isRegister_15
  · replace h := if_f hc h
    refine lv_iload_n hx hb d_SlippedStreams_isRegister_4 rfl (lv_at hl 0 rfl) ?_
    refine lv_bipush (v := 8) hx hb d_SlippedStreams_isRegister_5 (by decide) ?_
    refine lv_icmp_ge (tgt := 14) hx hb d_SlippedStreams_isRegister_7 (by decide) (fun hc => ?_) (fun hc => ?_)
    · replace h := if_t hc h
      refine lv_iconst (v := 0) hx hb d_SlippedStreams_isRegister_14 (by decide) ?_
      exact q_zret hx hb hr hlocks h hP hD hS d_SlippedStreams_isRegister_15
    · replace h := if_f hc h
      refine lv_iconst (v := 1) hx hb d_SlippedStreams_isRegister_10 (by decide) ?_
      refine lv_goto (tgt := 15) hx hb d_SlippedStreams_isRegister_11 (by decide) ?_
      exact q_zret hx hb hr hlocks h hP hD hS d_SlippedStreams_isRegister_15
def x_Program_isSound_104 (z0 : ST) (y1 y2 y3 y4 : Int32) : OR := obn (x_isRegister z0 y2) (fun r1 z1 => if r1 = 0 then (gib 0 (some (0, z1))) else (obn (x_isRegister z1 y3) (fun r2 z2 => if r2 = 0 then (gib 0 (some (0, z2))) else (if y4 < 0 then (gib 0 (some (0, z2))) else (if 24 < y4 then (gib 0 (some (0, z2))) else (gib 1 (some (1, z2))))))))
def x_Program_isSound_84 (z0 : ST) (y1 y2 y3 y4 : Int32) : OR := obn (x_isRegister z0 y2) (fun r3 z3 => if r3 = 0 then (gib 0 (some (0, z3))) else (obn (x_isRegister z3 y3) (fun r4 z4 => if r4 = 0 then (gib 0 (some (0, z4))) else (gib 1 (some (1, z4))))))
def x_Program_isSound_57 (z0 : ST) (y1 y2 y3 y4 : Int32) : OR := obn (x_isRegister z0 y2) (fun r5 z5 => if r5 = 0 then (gib 0 (some (0, z5))) else (obn (x_isRegister z5 y3) (fun r6 z6 => if r6 = 0 then (gib 0 (some (0, z6))) else (obn (x_isRegister z6 y4) (fun r7 z7 => if r7 = 0 then (gib 0 (some (0, z7))) else (gib 1 (some (1, z7))))))))
def x_Program_isSound_52 (z0 : ST) (y1 y2 y3 y4 : Int32) : OR := obn (x_isRegister z0 y2) (fun r8 z8 => gib r8 (some (r8, z8)))
def x_Program_isSound (z0 : ST) (x1 x2 x3 x4 : Int32) : OR := if x1 = 0 then (x_Program_isSound_52 z0 x1 x2 x3 x4) else (if x1 = 1 then (x_Program_isSound_57 z0 x1 x2 x3 x4) else (if x1 = 2 then (x_Program_isSound_57 z0 x1 x2 x3 x4) else (if x1 = 3 then (x_Program_isSound_57 z0 x1 x2 x3 x4) else (if x1 = 4 then (x_Program_isSound_84 z0 x1 x2 x3 x4) else (if x1 = 5 then (x_Program_isSound_84 z0 x1 x2 x3 x4) else (if x1 = 6 then (x_Program_isSound_104 z0 x1 x2 x3 x4) else (if x1 = 7 then (x_Program_isSound_104 z0 x1 x2 x3 x4) else (if x1 = 8 then (x_Program_isSound_52 z0 x1 x2 x3 x4) else (gib 0 (some (0, z0)))))))))))
set_option maxRecDepth 100000 in
set_option maxHeartbeats 4000000 in
theorem c_x_Program_isSound (l : Launch) (dC : Nat → ClassId) (dI : Nat → Nat → Nat) (cI cZ : ClassId) (ad : Nat → Nat) (z0 : ST) (x1 x2 x3 x4 : Int32) (R : Int32 × ST) (h : x_Program_isSound z0 x1 x2 x3 x4 = some R) : qMi l y_Program_isSound w_Program_isSound 1 20 (KX dC dI cI cZ) (dC, dI) q_cl (wX cI cZ ad) [.int x1, .int x2, .int x3, .int x4] z0 R := by
  intro sz
  refine Met.ofW (cc := b_Program_isSound) (maxL := 4) (ret := (some .boolean)) (by decide) rfl ?_
  intro p e s m args below meth c s₁ B hml hv
  obtain ⟨rfl, hsz, hP, hKK, hD0⟩ := hv
  have hx := B.exec
  have hb := B.bytes
  have hr := B.returns
  have hts : ∀ w ∈ q_big, w.before _ s = true := fun w h => atoms_spec (ws := w_Program_isSound) B.pre w (List.mem_cons_of_mem _ h)
  have hown : s.vm.findClass "SlippedStreams$Program" = some m.cls := findClass_of_methodNamed B.named
  have hlocks := B.notSynchronized
  subst hsz
  have hD := hD0.self (sz := s.heap.size)
  generalize hAe : va_A (wX cI cZ ad z0) s.heap.size = A at hD ⊢
  have hA : ∀ q : Nat, s.heap.size ≤ q → A q := fun q h => by rw [← hAe]; exact Or.inr h
  have hS : va_S A s.heap s.heap [] := va_S.rf
  have hK := hKK.1
  have hl := lv_entry ([.int x1, .int x2, .int x3, .int x4]) (n := 4) (Nat.le_of_ble_eq_true rfl)
  rw [lg_entry_eq]
  generalize (lg_sl ([.int x1, .int x2, .int x3, .int x4]) ++ List.replicate (4 - (lg_sl ([.int x1, .int x2, .int x3, .int x4])).length) Slot.unset).toArray = ls at hl ⊢
  have hl : lv_has ls 4 [(0, .int x1), (1, .int x2), (2, .int x3), (3, .int x4)] := hl
  have jp_104 : ∀ (z0 : ST) (y1 y2 y3 y4 : Int32) (H : Heap) (locs : List Loc) (ls : Array Slot), x_Program_isSound_104 z0 y1 y2 y3 y4 = some R → va_P (dC, dI) q_cl (wX cI cZ ad z0) H → va_D A (wX cI cZ ad z0) → va_S A s.heap H locs → lv_has ls 4 [(0, .int y1), (1, .int y2), (2, .int y3), (3, .int y4)] → qWi p l e w_Program_isSound 1 20 s m [.int x1, .int x2, .int x3, .int x4] below meth c (dC, dI) q_cl (wX cI cZ ad) A R H locs (F0 m 104 ls []) := by
    intro z0 y1 y2 y3 y4 H locs ls h hP hD hS hl
    unfold x_Program_isSound_104 at h
    refine lv_iload_n hx hb d_Program_isSound_104 rfl (lv_at hl 1 rfl) ?_
    obtain ⟨r1, z1, hc1, h⟩ := obn_e h
    refine q_goi (va_runSN (As := [.int y2]) (rest := []) ⟨hx, hb, hml, hown, hts⟩ (c_x_isRegister l dC dI cI cZ ad z0 y2 _ hc1 _) ⟨va_cnB 1 hts (q_good k_392) rfl rfl rfl hKK.2.1 (hts _ k_53) (by decide +kernel) ⟨Nat.le_of_ble_eq_true rfl, Nat.le_of_ble_eq_true rfl⟩, (hts _ k_391), trivial⟩ (q_preS qok hKK hP hD) rfl rfl hl.1 rfl (lv_room (Nat.le_of_ble_eq_true rfl)) d_Program_isSound_105 ⟨Nat.le_refl _, Nat.le_refl _⟩) hD hS hA (fun H locs hP hD hS => ?_)
    refine lv_if_eq (tgt := 132) hx hb d_Program_isSound_108 (by decide) (fun hc => ?_) (fun hc => ?_)
    · replace h := if_t hc h
      refine lv_iconst (v := 0) hx hb d_Program_isSound_132 (by decide) ?_
      exact q_zret hx hb hr hlocks h hP hD hS d_Program_isSound_133
    · replace h := if_f hc h
      refine lv_iload_n hx hb d_Program_isSound_111 rfl (lv_at hl 2 rfl) ?_
      obtain ⟨r2, z2, hc2, h⟩ := obn_e h
      refine q_goi (va_runSN (As := [.int y3]) (rest := []) ⟨hx, hb, hml, hown, hts⟩ (c_x_isRegister l dC dI cI cZ ad z1 y3 _ hc2 _) ⟨va_cnB 1 hts (q_good k_392) rfl rfl rfl hKK.2.1 (hts _ k_53) (by decide +kernel) ⟨Nat.le_of_ble_eq_true rfl, Nat.le_of_ble_eq_true rfl⟩, (hts _ k_391), trivial⟩ (q_preS qok hKK hP hD) rfl rfl hl.1 rfl (lv_room (Nat.le_of_ble_eq_true rfl)) d_Program_isSound_112 ⟨Nat.le_refl _, Nat.le_refl _⟩) hD hS hA (fun H locs hP hD hS => ?_)
      refine lv_if_eq (tgt := 132) hx hb d_Program_isSound_115 (by decide) (fun hc => ?_) (fun hc => ?_)
      · replace h := if_t hc h
        refine lv_iconst (v := 0) hx hb d_Program_isSound_132 (by decide) ?_
        exact q_zret hx hb hr hlocks h hP hD hS d_Program_isSound_133
      · replace h := if_f hc h
        refine lv_iload_n hx hb d_Program_isSound_118 rfl (lv_at hl 3 rfl) ?_
        refine lv_if_lt (tgt := 132) hx hb d_Program_isSound_119 (by decide) (fun hc => ?_) (fun hc => ?_)
        · replace h := if_t hc h
          refine lv_iconst (v := 0) hx hb d_Program_isSound_132 (by decide) ?_
          exact q_zret hx hb hr hlocks h hP hD hS d_Program_isSound_133
        · replace h := if_f hc h
          refine lv_iload_n hx hb d_Program_isSound_122 rfl (lv_at hl 3 rfl) ?_
          refine lv_bipush (v := 24) hx hb d_Program_isSound_123 (by decide) ?_
          refine lv_icmp_gt (tgt := 132) hx hb d_Program_isSound_125 (by decide) (fun hc => ?_) (fun hc => ?_)
          · replace h := if_t hc h
            refine lv_iconst (v := 0) hx hb d_Program_isSound_132 (by decide) ?_
            exact q_zret hx hb hr hlocks h hP hD hS d_Program_isSound_133
          · replace h := if_f hc h
            refine lv_iconst (v := 1) hx hb d_Program_isSound_128 (by decide) ?_
            refine lv_goto (tgt := 133) hx hb d_Program_isSound_129 (by decide) ?_
            exact q_zret hx hb hr hlocks h hP hD hS d_Program_isSound_133
  have jp_84 : ∀ (z0 : ST) (y1 y2 y3 y4 : Int32) (H : Heap) (locs : List Loc) (ls : Array Slot), x_Program_isSound_84 z0 y1 y2 y3 y4 = some R → va_P (dC, dI) q_cl (wX cI cZ ad z0) H → va_D A (wX cI cZ ad z0) → va_S A s.heap H locs → lv_has ls 4 [(0, .int y1), (1, .int y2), (2, .int y3), (3, .int y4)] → qWi p l e w_Program_isSound 1 20 s m [.int x1, .int x2, .int x3, .int x4] below meth c (dC, dI) q_cl (wX cI cZ ad) A R H locs (F0 m 84 ls []) := by
    intro z0 y1 y2 y3 y4 H locs ls h hP hD hS hl
    unfold x_Program_isSound_84 at h
    refine lv_iload_n hx hb d_Program_isSound_84 rfl (lv_at hl 1 rfl) ?_
    obtain ⟨r3, z3, hc3, h⟩ := obn_e h
    refine q_goi (va_runSN (As := [.int y2]) (rest := []) ⟨hx, hb, hml, hown, hts⟩ (c_x_isRegister l dC dI cI cZ ad z0 y2 _ hc3 _) ⟨va_cnB 1 hts (q_good k_392) rfl rfl rfl hKK.2.1 (hts _ k_53) (by decide +kernel) ⟨Nat.le_of_ble_eq_true rfl, Nat.le_of_ble_eq_true rfl⟩, (hts _ k_391), trivial⟩ (q_preS qok hKK hP hD) rfl rfl hl.1 rfl (lv_room (Nat.le_of_ble_eq_true rfl)) d_Program_isSound_85 ⟨Nat.le_refl _, Nat.le_refl _⟩) hD hS hA (fun H locs hP hD hS => ?_)
    refine lv_if_eq (tgt := 102) hx hb d_Program_isSound_88 (by decide) (fun hc => ?_) (fun hc => ?_)
    · replace h := if_t hc h
      refine lv_iconst (v := 0) hx hb d_Program_isSound_102 (by decide) ?_
      exact q_zret hx hb hr hlocks h hP hD hS d_Program_isSound_103
    · replace h := if_f hc h
      refine lv_iload_n hx hb d_Program_isSound_91 rfl (lv_at hl 2 rfl) ?_
      obtain ⟨r4, z4, hc4, h⟩ := obn_e h
      refine q_goi (va_runSN (As := [.int y3]) (rest := []) ⟨hx, hb, hml, hown, hts⟩ (c_x_isRegister l dC dI cI cZ ad z3 y3 _ hc4 _) ⟨va_cnB 1 hts (q_good k_392) rfl rfl rfl hKK.2.1 (hts _ k_53) (by decide +kernel) ⟨Nat.le_of_ble_eq_true rfl, Nat.le_of_ble_eq_true rfl⟩, (hts _ k_391), trivial⟩ (q_preS qok hKK hP hD) rfl rfl hl.1 rfl (lv_room (Nat.le_of_ble_eq_true rfl)) d_Program_isSound_92 ⟨Nat.le_refl _, Nat.le_refl _⟩) hD hS hA (fun H locs hP hD hS => ?_)
      refine lv_if_eq (tgt := 102) hx hb d_Program_isSound_95 (by decide) (fun hc => ?_) (fun hc => ?_)
      · replace h := if_t hc h
        refine lv_iconst (v := 0) hx hb d_Program_isSound_102 (by decide) ?_
        exact q_zret hx hb hr hlocks h hP hD hS d_Program_isSound_103
      · replace h := if_f hc h
        refine lv_iconst (v := 1) hx hb d_Program_isSound_98 (by decide) ?_
        refine lv_goto (tgt := 103) hx hb d_Program_isSound_99 (by decide) ?_
        exact q_zret hx hb hr hlocks h hP hD hS d_Program_isSound_103
  have jp_57 : ∀ (z0 : ST) (y1 y2 y3 y4 : Int32) (H : Heap) (locs : List Loc) (ls : Array Slot), x_Program_isSound_57 z0 y1 y2 y3 y4 = some R → va_P (dC, dI) q_cl (wX cI cZ ad z0) H → va_D A (wX cI cZ ad z0) → va_S A s.heap H locs → lv_has ls 4 [(0, .int y1), (1, .int y2), (2, .int y3), (3, .int y4)] → qWi p l e w_Program_isSound 1 20 s m [.int x1, .int x2, .int x3, .int x4] below meth c (dC, dI) q_cl (wX cI cZ ad) A R H locs (F0 m 57 ls []) := by
    intro z0 y1 y2 y3 y4 H locs ls h hP hD hS hl
    unfold x_Program_isSound_57 at h
    refine lv_iload_n hx hb d_Program_isSound_57 rfl (lv_at hl 1 rfl) ?_
    obtain ⟨r5, z5, hc5, h⟩ := obn_e h
    refine q_goi (va_runSN (As := [.int y2]) (rest := []) ⟨hx, hb, hml, hown, hts⟩ (c_x_isRegister l dC dI cI cZ ad z0 y2 _ hc5 _) ⟨va_cnB 1 hts (q_good k_392) rfl rfl rfl hKK.2.1 (hts _ k_53) (by decide +kernel) ⟨Nat.le_of_ble_eq_true rfl, Nat.le_of_ble_eq_true rfl⟩, (hts _ k_391), trivial⟩ (q_preS qok hKK hP hD) rfl rfl hl.1 rfl (lv_room (Nat.le_of_ble_eq_true rfl)) d_Program_isSound_58 ⟨Nat.le_refl _, Nat.le_refl _⟩) hD hS hA (fun H locs hP hD hS => ?_)
    refine lv_if_eq (tgt := 82) hx hb d_Program_isSound_61 (by decide) (fun hc => ?_) (fun hc => ?_)
    · replace h := if_t hc h
      refine lv_iconst (v := 0) hx hb d_Program_isSound_82 (by decide) ?_
      exact q_zret hx hb hr hlocks h hP hD hS d_Program_isSound_83
    · replace h := if_f hc h
      refine lv_iload_n hx hb d_Program_isSound_64 rfl (lv_at hl 2 rfl) ?_
      obtain ⟨r6, z6, hc6, h⟩ := obn_e h
      refine q_goi (va_runSN (As := [.int y3]) (rest := []) ⟨hx, hb, hml, hown, hts⟩ (c_x_isRegister l dC dI cI cZ ad z5 y3 _ hc6 _) ⟨va_cnB 1 hts (q_good k_392) rfl rfl rfl hKK.2.1 (hts _ k_53) (by decide +kernel) ⟨Nat.le_of_ble_eq_true rfl, Nat.le_of_ble_eq_true rfl⟩, (hts _ k_391), trivial⟩ (q_preS qok hKK hP hD) rfl rfl hl.1 rfl (lv_room (Nat.le_of_ble_eq_true rfl)) d_Program_isSound_65 ⟨Nat.le_refl _, Nat.le_refl _⟩) hD hS hA (fun H locs hP hD hS => ?_)
      refine lv_if_eq (tgt := 82) hx hb d_Program_isSound_68 (by decide) (fun hc => ?_) (fun hc => ?_)
      · replace h := if_t hc h
        refine lv_iconst (v := 0) hx hb d_Program_isSound_82 (by decide) ?_
        exact q_zret hx hb hr hlocks h hP hD hS d_Program_isSound_83
      · replace h := if_f hc h
        refine lv_iload_n hx hb d_Program_isSound_71 rfl (lv_at hl 3 rfl) ?_
        obtain ⟨r7, z7, hc7, h⟩ := obn_e h
        refine q_goi (va_runSN (As := [.int y4]) (rest := []) ⟨hx, hb, hml, hown, hts⟩ (c_x_isRegister l dC dI cI cZ ad z6 y4 _ hc7 _) ⟨va_cnB 1 hts (q_good k_392) rfl rfl rfl hKK.2.1 (hts _ k_53) (by decide +kernel) ⟨Nat.le_of_ble_eq_true rfl, Nat.le_of_ble_eq_true rfl⟩, (hts _ k_391), trivial⟩ (q_preS qok hKK hP hD) rfl rfl hl.1 rfl (lv_room (Nat.le_of_ble_eq_true rfl)) d_Program_isSound_72 ⟨Nat.le_refl _, Nat.le_refl _⟩) hD hS hA (fun H locs hP hD hS => ?_)
        refine lv_if_eq (tgt := 82) hx hb d_Program_isSound_75 (by decide) (fun hc => ?_) (fun hc => ?_)
        · replace h := if_t hc h
          refine lv_iconst (v := 0) hx hb d_Program_isSound_82 (by decide) ?_
          exact q_zret hx hb hr hlocks h hP hD hS d_Program_isSound_83
        · replace h := if_f hc h
          refine lv_iconst (v := 1) hx hb d_Program_isSound_78 (by decide) ?_
          refine lv_goto (tgt := 83) hx hb d_Program_isSound_79 (by decide) ?_
          exact q_zret hx hb hr hlocks h hP hD hS d_Program_isSound_83
  have jp_52 : ∀ (z0 : ST) (y1 y2 y3 y4 : Int32) (H : Heap) (locs : List Loc) (ls : Array Slot), x_Program_isSound_52 z0 y1 y2 y3 y4 = some R → va_P (dC, dI) q_cl (wX cI cZ ad z0) H → va_D A (wX cI cZ ad z0) → va_S A s.heap H locs → lv_has ls 4 [(0, .int y1), (1, .int y2), (2, .int y3), (3, .int y4)] → qWi p l e w_Program_isSound 1 20 s m [.int x1, .int x2, .int x3, .int x4] below meth c (dC, dI) q_cl (wX cI cZ ad) A R H locs (F0 m 52 ls []) := by
    intro z0 y1 y2 y3 y4 H locs ls h hP hD hS hl
    unfold x_Program_isSound_52 at h
    refine lv_iload_n hx hb d_Program_isSound_52 rfl (lv_at hl 1 rfl) ?_
    obtain ⟨r8, z8, hc8, h⟩ := obn_e h
    refine q_goi (va_runSN (As := [.int y2]) (rest := []) ⟨hx, hb, hml, hown, hts⟩ (c_x_isRegister l dC dI cI cZ ad z0 y2 _ hc8 _) ⟨va_cnB 1 hts (q_good k_392) rfl rfl rfl hKK.2.1 (hts _ k_53) (by decide +kernel) ⟨Nat.le_of_ble_eq_true rfl, Nat.le_of_ble_eq_true rfl⟩, (hts _ k_391), trivial⟩ (q_preS qok hKK hP hD) rfl rfl hl.1 rfl (lv_room (Nat.le_of_ble_eq_true rfl)) d_Program_isSound_53 ⟨Nat.le_refl _, Nat.le_refl _⟩) hD hS hA (fun H locs hP hD hS => ?_)
    exact q_zret hx hb hr hlocks h hP hD hS d_Program_isSound_56
  unfold x_Program_isSound at h
  refine lv_iload_n hx hb d_Program_isSound_0 rfl (lv_at hl 0 rfl) ?_
  by_cases hc0 : x1 = 0
  · replace h := if_t hc0 h
    refine lv_tableIn (tgt := 52) (off := 51) hx hb d_Program_isSound_1 (by rw [hc0]; decide) (by rw [hc0]; decide) (by rw [hc0]; rfl) (by decide) ?_
    exact jp_52 z0 x1 x2 x3 x4 _ _ _ h hP hD hS (lv_sub hl [0, 1, 2, 3] rfl)
  · replace h := if_f hc0 h
    by_cases hc1 : x1 = 1
    · replace h := if_t hc1 h
      refine lv_tableIn (tgt := 57) (off := 56) hx hb d_Program_isSound_1 (by rw [hc1]; decide) (by rw [hc1]; decide) (by rw [hc1]; rfl) (by decide) ?_
      exact jp_57 z0 x1 x2 x3 x4 _ _ _ h hP hD hS (lv_sub hl [0, 1, 2, 3] rfl)
    · replace h := if_f hc1 h
      by_cases hc2 : x1 = 2
      · replace h := if_t hc2 h
        refine lv_tableIn (tgt := 57) (off := 56) hx hb d_Program_isSound_1 (by rw [hc2]; decide) (by rw [hc2]; decide) (by rw [hc2]; rfl) (by decide) ?_
        exact jp_57 z0 x1 x2 x3 x4 _ _ _ h hP hD hS (lv_sub hl [0, 1, 2, 3] rfl)
      · replace h := if_f hc2 h
        by_cases hc3 : x1 = 3
        · replace h := if_t hc3 h
          refine lv_tableIn (tgt := 57) (off := 56) hx hb d_Program_isSound_1 (by rw [hc3]; decide) (by rw [hc3]; decide) (by rw [hc3]; rfl) (by decide) ?_
          exact jp_57 z0 x1 x2 x3 x4 _ _ _ h hP hD hS (lv_sub hl [0, 1, 2, 3] rfl)
        · replace h := if_f hc3 h
          by_cases hc4 : x1 = 4
          · replace h := if_t hc4 h
            refine lv_tableIn (tgt := 84) (off := 83) hx hb d_Program_isSound_1 (by rw [hc4]; decide) (by rw [hc4]; decide) (by rw [hc4]; rfl) (by decide) ?_
            exact jp_84 z0 x1 x2 x3 x4 _ _ _ h hP hD hS (lv_sub hl [0, 1, 2, 3] rfl)
          · replace h := if_f hc4 h
            by_cases hc5 : x1 = 5
            · replace h := if_t hc5 h
              refine lv_tableIn (tgt := 84) (off := 83) hx hb d_Program_isSound_1 (by rw [hc5]; decide) (by rw [hc5]; decide) (by rw [hc5]; rfl) (by decide) ?_
              exact jp_84 z0 x1 x2 x3 x4 _ _ _ h hP hD hS (lv_sub hl [0, 1, 2, 3] rfl)
            · replace h := if_f hc5 h
              by_cases hc6 : x1 = 6
              · replace h := if_t hc6 h
                refine lv_tableIn (tgt := 104) (off := 103) hx hb d_Program_isSound_1 (by rw [hc6]; decide) (by rw [hc6]; decide) (by rw [hc6]; rfl) (by decide) ?_
                exact jp_104 z0 x1 x2 x3 x4 _ _ _ h hP hD hS (lv_sub hl [0, 1, 2, 3] rfl)
              · replace h := if_f hc6 h
                by_cases hc7 : x1 = 7
                · replace h := if_t hc7 h
                  refine lv_tableIn (tgt := 104) (off := 103) hx hb d_Program_isSound_1 (by rw [hc7]; decide) (by rw [hc7]; decide) (by rw [hc7]; rfl) (by decide) ?_
                  exact jp_104 z0 x1 x2 x3 x4 _ _ _ h hP hD hS (lv_sub hl [0, 1, 2, 3] rfl)
                · replace h := if_f hc7 h
                  by_cases hc8 : x1 = 8
                  · replace h := if_t hc8 h
                    refine lv_tableIn (tgt := 52) (off := 51) hx hb d_Program_isSound_1 (by rw [hc8]; decide) (by rw [hc8]; decide) (by rw [hc8]; rfl) (by decide) ?_
                    exact jp_52 z0 x1 x2 x3 x4 _ _ _ h hP hD hS (lv_sub hl [0, 1, 2, 3] rfl)
                  · replace h := if_f hc8 h
                    refine lv_tableOut (tgt := 134) hx hb d_Program_isSound_1 (by have g0 := lv_neT hc0 (a := 0) (by decide); have g1 := lv_neT hc1 (a := 1) (by decide); have g2 := lv_neT hc2 (a := 2) (by decide); have g3 := lv_neT hc3 (a := 3) (by decide); have g4 := lv_neT hc4 (a := 4) (by decide); have g5 := lv_neT hc5 (a := 5) (by decide); have g6 := lv_neT hc6 (a := 6) (by decide); have g7 := lv_neT hc7 (a := 7) (by decide); have g8 := lv_neT hc8 (a := 8) (by decide); omega) (by decide) ?_
                    refine lv_iconst (v := 0) hx hb d_Program_isSound_134 (by decide) ?_
                    exact q_zret hx hb hr hlocks h hP hD hS d_Program_isSound_135
def x_Program_isArithmetic_1 (z0 : ST) (x1 : Int32) : OR := gin x1 24 (if (z0.2 0 x1.toNatClampNeg) = 1 then (gib 1 (some (1, z0))) else (gin x1 24 (if (z0.2 0 x1.toNatClampNeg) = 2 then (gib 1 (some (1, z0))) else (gin x1 24 (if (z0.2 0 x1.toNatClampNeg) = 3 then (gib 1 (some (1, z0))) else (gib 0 (some (0, z0))))))))
set_option maxRecDepth 100000 in
set_option maxHeartbeats 4000000 in
theorem c_x_Program_isArithmetic_1 (l : Launch) (dC : Nat → ClassId) (dI : Nat → Nat → Nat) (cI cZ : ClassId) (ad : Nat → Nat) (z0 : ST) (x1 : Int32) (R : Int32 × ST) (h : x_Program_isArithmetic_1 z0 x1 = some R) : qMi l y_Program_isArithmetic w_Program_isArithmetic 0 0 (KX dC dI cI cZ) (dC, dI) q_cl (wX cI cZ ad) [.ref (ad 1), .int x1] z0 R := by
  intro sz
  refine Met.ofW (cc := b_Program_isArithmetic) (maxL := 2) (ret := (some .boolean)) (by decide) rfl ?_
  intro p e s m args below meth c s₁ B hml hv
  obtain ⟨rfl, hsz, hP, hKK, hD0⟩ := hv
  have hx := B.exec
  have hb := B.bytes
  have hr := B.returns
  have hts : ∀ w ∈ q_big, w.before _ s = true := fun w h => atoms_spec (ws := w_Program_isArithmetic) B.pre w (List.mem_cons_of_mem _ h)
  have hown : s.vm.findClass "SlippedStreams$Program" = some m.cls := findClass_of_methodNamed B.named
  have hlocks := B.notSynchronized
  subst hsz
  have hD := hD0.self (sz := s.heap.size)
  generalize hAe : va_A (wX cI cZ ad z0) s.heap.size = A at hD ⊢
  have hA : ∀ q : Nat, s.heap.size ≤ q → A q := fun q h => by rw [← hAe]; exact Or.inr h
  have hS : va_S A s.heap s.heap [] := va_S.rf
  have hK := hKK.1
  have hl := lv_entry ([.ref (ad 1), .int x1]) (n := 2) (Nat.le_of_ble_eq_true rfl)
  rw [lg_entry_eq]
  generalize (lg_sl ([.ref (ad 1), .int x1]) ++ List.replicate (2 - (lg_sl ([.ref (ad 1), .int x1])).length) Slot.unset).toArray = ls at hl ⊢
  have hl : lv_has ls 2 [(0, .ref (ad 1)), (1, .int x1)] := hl
  unfold x_Program_isArithmetic_1 at h
  refine lv_aload_n hx hb d_Program_isArithmetic_0 rfl (lv_at hl 0 rfl) ?_
  refine xg_1_kinds hx hb hts hin_Program hown hK hP (hts _ k_83) (fun _ h9 => h9) d_Program_isArithmetic_1 ?_
  refine lv_iload_n hx hb d_Program_isArithmetic_4 rfl (lv_at hl 1 rfl) ?_
  obtain ⟨hi, h⟩ := gin_e h
  refine xl_0 hx hb hK hP hi d_Program_isArithmetic_5 ?_
  refine lv_iconst (v := 1) hx hb d_Program_isArithmetic_6 (by decide) ?_
  refine lv_icmp_eq (tgt := 30) hx hb d_Program_isArithmetic_7 (by decide) (fun hc => ?_) (fun hc => ?_)
  · replace h := if_t hc h
    refine lv_iconst (v := 1) hx hb d_Program_isArithmetic_30 (by decide) ?_
    refine lv_goto (tgt := 35) hx hb d_Program_isArithmetic_31 (by decide) ?_
    exact q_zret hx hb hr hlocks h hP hD hS d_Program_isArithmetic_35
  · replace h := if_f hc h
    refine lv_aload_n hx hb d_Program_isArithmetic_10 rfl (lv_at hl 0 rfl) ?_
    refine xg_1_kinds hx hb hts hin_Program hown hK hP (hts _ k_83) (fun _ h9 => h9) d_Program_isArithmetic_11 ?_
    refine lv_iload_n hx hb d_Program_isArithmetic_14 rfl (lv_at hl 1 rfl) ?_
    obtain ⟨hi, h⟩ := gin_e h
    refine xl_0 hx hb hK hP hi d_Program_isArithmetic_15 ?_
    refine lv_iconst (v := 2) hx hb d_Program_isArithmetic_16 (by decide) ?_
    refine lv_icmp_eq (tgt := 30) hx hb d_Program_isArithmetic_17 (by decide) (fun hc => ?_) (fun hc => ?_)
    · replace h := if_t hc h
      refine lv_iconst (v := 1) hx hb d_Program_isArithmetic_30 (by decide) ?_
      refine lv_goto (tgt := 35) hx hb d_Program_isArithmetic_31 (by decide) ?_
      exact q_zret hx hb hr hlocks h hP hD hS d_Program_isArithmetic_35
    · replace h := if_f hc h
      refine lv_aload_n hx hb d_Program_isArithmetic_20 rfl (lv_at hl 0 rfl) ?_
      refine xg_1_kinds hx hb hts hin_Program hown hK hP (hts _ k_83) (fun _ h9 => h9) d_Program_isArithmetic_21 ?_
      refine lv_iload_n hx hb d_Program_isArithmetic_24 rfl (lv_at hl 1 rfl) ?_
      obtain ⟨hi, h⟩ := gin_e h
      refine xl_0 hx hb hK hP hi d_Program_isArithmetic_25 ?_
      refine lv_iconst (v := 3) hx hb d_Program_isArithmetic_26 (by decide) ?_
      refine lv_icmp_ne (tgt := 34) hx hb d_Program_isArithmetic_27 (by decide) (fun hc => ?_) (fun hc => ?_)
      · replace h := if_f hc h
        refine lv_iconst (v := 0) hx hb d_Program_isArithmetic_34 (by decide) ?_
        exact q_zret hx hb hr hlocks h hP hD hS d_Program_isArithmetic_35
      · replace h := if_t hc h
        refine lv_iconst (v := 1) hx hb d_Program_isArithmetic_30 (by decide) ?_
        refine lv_goto (tgt := 35) hx hb d_Program_isArithmetic_31 (by decide) ?_
        exact q_zret hx hb hr hlocks h hP hD hS d_Program_isArithmetic_35
def x_Program_isAddressRegister_1 (z0 : ST) (x1 : Int32) : OR := if x1 = (-1) then (gib 0 (some (0, z0))) else (if (((z0.1 2) >>> (x1 &&& 31)) &&& 1) = 0 then (gib 0 (some (0, z0))) else (gib 1 (some (1, z0))))
set_option maxRecDepth 100000 in
set_option maxHeartbeats 4000000 in
theorem c_x_Program_isAddressRegister_1 (l : Launch) (dC : Nat → ClassId) (dI : Nat → Nat → Nat) (cI cZ : ClassId) (ad : Nat → Nat) (z0 : ST) (x1 : Int32) (R : Int32 × ST) (h : x_Program_isAddressRegister_1 z0 x1 = some R) : qMi l y_Program_isAddressRegister w_Program_isAddressRegister 0 0 (KX dC dI cI cZ) (dC, dI) q_cl (wX cI cZ ad) [.ref (ad 1), .int x1] z0 R := by
  intro sz
  refine Met.ofW (cc := b_Program_isAddressRegister) (maxL := 2) (ret := (some .boolean)) (by decide) rfl ?_
  intro p e s m args below meth c s₁ B hml hv
  obtain ⟨rfl, hsz, hP, hKK, hD0⟩ := hv
  have hx := B.exec
  have hb := B.bytes
  have hr := B.returns
  have hts : ∀ w ∈ q_big, w.before _ s = true := fun w h => atoms_spec (ws := w_Program_isAddressRegister) B.pre w (List.mem_cons_of_mem _ h)
  have hown : s.vm.findClass "SlippedStreams$Program" = some m.cls := findClass_of_methodNamed B.named
  have hlocks := B.notSynchronized
  subst hsz
  have hD := hD0.self (sz := s.heap.size)
  generalize hAe : va_A (wX cI cZ ad z0) s.heap.size = A at hD ⊢
  have hA : ∀ q : Nat, s.heap.size ≤ q → A q := fun q h => by rw [← hAe]; exact Or.inr h
  have hS : va_S A s.heap s.heap [] := va_S.rf
  have hK := hKK.1
  have hl := lv_entry ([.ref (ad 1), .int x1]) (n := 2) (Nat.le_of_ble_eq_true rfl)
  rw [lg_entry_eq]
  generalize (lg_sl ([.ref (ad 1), .int x1]) ++ List.replicate (2 - (lg_sl ([.ref (ad 1), .int x1])).length) Slot.unset).toArray = ls at hl ⊢
  have hl : lv_has ls 2 [(0, .ref (ad 1)), (1, .int x1)] := hl
  unfold x_Program_isAddressRegister_1 at h
  refine lv_iload_n hx hb d_Program_isAddressRegister_0 rfl (lv_at hl 1 rfl) ?_
  refine lv_iconst (v := (-1)) hx hb d_Program_isAddressRegister_1 (by decide) ?_
  refine lv_icmp_eq (tgt := 20) hx hb d_Program_isAddressRegister_2 (by decide) (fun hc => ?_) (fun hc => ?_)
  · replace h := if_t hc h
    refine lv_iconst (v := 0) hx hb d_Program_isAddressRegister_20 (by decide) ?_
    exact q_zret hx hb hr hlocks h hP hD hS d_Program_isAddressRegister_21
  · replace h := if_f hc h
    refine lv_aload_n hx hb d_Program_isAddressRegister_5 rfl (lv_at hl 0 rfl) ?_
    refine xg_1_addressMask hx hb hts hin_Program hown hK hP (hts _ k_118) (fun _ h9 => h9) d_Program_isAddressRegister_6 ?_
    refine lv_iload_n hx hb d_Program_isAddressRegister_9 rfl (lv_at hl 1 rfl) ?_
    refine lv_ishr hx hb d_Program_isAddressRegister_10 ?_
    refine lv_iconst (v := 1) hx hb d_Program_isAddressRegister_11 (by decide) ?_
    refine lv_iand hx hb d_Program_isAddressRegister_12 ?_
    refine lv_if_eq (tgt := 20) hx hb d_Program_isAddressRegister_13 (by decide) (fun hc => ?_) (fun hc => ?_)
    · replace h := if_t hc h
      refine lv_iconst (v := 0) hx hb d_Program_isAddressRegister_20 (by decide) ?_
      exact q_zret hx hb hr hlocks h hP hD hS d_Program_isAddressRegister_21
    · replace h := if_f hc h
      refine lv_iconst (v := 1) hx hb d_Program_isAddressRegister_16 (by decide) ?_
      refine lv_goto (tgt := 21) hx hb d_Program_isAddressRegister_17 (by decide) ?_
      exact q_zret hx hb hr hlocks h hP hD hS d_Program_isAddressRegister_21
def x_Program_findAddressRegisters_1_g0 (k : Nat → ST → Int32 → Int32 → OR) (z0 : ST) (y1 y2 : Int32) : OR := bnd (stI z0 2 0) (fun z1 => k 1 z1 0 0)
def x_Program_findAddressRegisters_1_g7 (k : Nat → ST → Int32 → Int32 → OR) (z0 : ST) (y1 y2 : Int32) : OR := if (z0.1 1) ≤ y1 then (k 4 z0 0 0) else (gin y1 24 (if (z0.2 0 y1.toNatClampNeg) = 4 then (k 2 z0 y1 0) else (gin y1 24 (if (z0.2 0 y1.toNatClampNeg) = 5 then (k 2 z0 y1 0) else (k 3 z0 y1 0)))))
def x_Program_findAddressRegisters_1_g35 (k : Nat → ST → Int32 → Int32 → OR) (z0 : ST) (y1 y2 : Int32) : OR := gin y1 24 (bnd (stI z0 2 ((z0.1 2) ||| (1 <<< ((z0.2 2 y1.toNatClampNeg) &&& 31)))) (fun z2 => k 3 z2 y1 0))
def x_Program_findAddressRegisters_1_g52 (k : Nat → ST → Int32 → Int32 → OR) (z0 : ST) (y1 y2 : Int32) : OR := k 1 z0 (y1 + 1) 0
def x_Program_findAddressRegisters_1_g60 (k : Nat → ST → Int32 → Int32 → OR) (z0 : ST) (y1 y2 : Int32) : OR := if 8 ≤ y1 then (some (0, z0)) else (k 5 z0 y1 0)
def x_Program_findAddressRegisters_1_g68 (k : Nat → ST → Int32 → Int32 → OR) (z0 : ST) (y1 y2 : Int32) : OR := if (z0.1 1) ≤ y2 then (k 4 z0 (y1 + 1) 0) else (obn (x_Program_isArithmetic_1 z0 y2) (fun r3 z3 => if r3 = 0 then (k 6 z3 y1 y2) else (gin y2 24 (obn (x_Program_isAddressRegister_1 z3 (z3.2 1 y2.toNatClampNeg)) (fun r4 z4 => if r4 = 0 then (k 6 z4 y1 y2) else (gin y2 24 (gin y2 24 (bnd (stI z4 2 ((z4.1 2) ||| ((1 <<< ((z4.2 2 y2.toNatClampNeg) &&& 31)) ||| (1 <<< ((z4.2 3 y2.toNatClampNeg) &&& 31))))) (fun z5 => k 6 z5 y1 y2)))))))))
def x_Program_findAddressRegisters_1_g123 (k : Nat → ST → Int32 → Int32 → OR) (z0 : ST) (y1 y2 : Int32) : OR := k 5 z0 y1 (y2 + 1)
def x_Program_findAddressRegisters_1_g (k : Nat → ST → Int32 → Int32 → OR) (n : Nat) : ST → Int32 → Int32 → OR := match n with
  | 0 => x_Program_findAddressRegisters_1_g0 k
  | 1 => x_Program_findAddressRegisters_1_g7 k
  | 2 => x_Program_findAddressRegisters_1_g35 k
  | 3 => x_Program_findAddressRegisters_1_g52 k
  | 4 => x_Program_findAddressRegisters_1_g60 k
  | 5 => x_Program_findAddressRegisters_1_g68 k
  | 6 => x_Program_findAddressRegisters_1_g123 k
  | _ => fun _ _ _ => none
def x_Program_findAddressRegisters_1_f : Nat → Nat → ST → Int32 → Int32 → OR
  | 0 => fun _ _ _ _ => none
  | n + 1 => x_Program_findAddressRegisters_1_g (x_Program_findAddressRegisters_1_f n)
def x_Program_findAddressRegisters_1 (z0 : ST) : OR := x_Program_findAddressRegisters_1_f 4000 0 z0 0 0
set_option maxRecDepth 100000 in
set_option maxHeartbeats 4000000 in
theorem c_x_Program_findAddressRegisters_1 (l : Launch) (dC : Nat → ClassId) (dI : Nat → Nat → Nat) (cI cZ : ClassId) (ad : Nat → Nat) (z0 : ST) (R : Int32 × ST) (h : x_Program_findAddressRegisters_1 z0 = some R) : qMv l y_Program_findAddressRegisters w_Program_findAddressRegisters 1 21 (KX dC dI cI cZ) (dC, dI) q_cl (wX cI cZ ad) [.ref (ad 1)] z0 R := by
  intro sz
  refine Met.ofW (cc := b_Program_findAddressRegisters) (maxL := 3) (ret := none) (by decide) rfl ?_
  intro p e s m args below meth c s₁ B hml hv
  obtain ⟨rfl, hsz, hP, hKK, hD0⟩ := hv
  have hx := B.exec
  have hb := B.bytes
  have hr := B.returns
  have hts : ∀ w ∈ q_big, w.before _ s = true := fun w h => atoms_spec (ws := w_Program_findAddressRegisters) B.pre w (List.mem_cons_of_mem _ h)
  have hown : s.vm.findClass "SlippedStreams$Program" = some m.cls := findClass_of_methodNamed B.named
  have hlocks := B.notSynchronized
  subst hsz
  have hD := hD0.self (sz := s.heap.size)
  generalize hAe : va_A (wX cI cZ ad z0) s.heap.size = A at hD ⊢
  have hA : ∀ q : Nat, s.heap.size ≤ q → A q := fun q h => by rw [← hAe]; exact Or.inr h
  have hS : va_S A s.heap s.heap [] := va_S.rf
  have hK := hKK.1
  have hl := lv_entry ([.ref (ad 1)]) (n := 3) (Nat.le_of_ble_eq_true rfl)
  rw [lg_entry_eq]
  generalize (lg_sl ([.ref (ad 1)]) ++ List.replicate (3 - (lg_sl ([.ref (ad 1)])).length) Slot.unset).toArray = ls at hl ⊢
  have hl : lv_has ls 3 [(0, .ref (ad 1))] := hl
  have key : ∀ n : Nat, (∀ (z0 : ST) (y1 y2 : Int32) (H : Heap) (locs : List Loc) (ls : Array Slot), x_Program_findAddressRegisters_1_f n 0 z0 y1 y2 = some R → va_P (dC, dI) q_cl (wX cI cZ ad z0) H → va_D A (wX cI cZ ad z0) → va_S A s.heap H locs → lv_has ls 3 [(0, .ref (ad 1))] → qWv p l e w_Program_findAddressRegisters 1 21 s m [.ref (ad 1)] below meth c (dC, dI) q_cl (wX cI cZ ad) A R H locs (F0 m 0 ls [])) ∧ (∀ (z0 : ST) (y1 y2 : Int32) (H : Heap) (locs : List Loc) (ls : Array Slot), x_Program_findAddressRegisters_1_f n 1 z0 y1 y2 = some R → va_P (dC, dI) q_cl (wX cI cZ ad z0) H → va_D A (wX cI cZ ad z0) → va_S A s.heap H locs → lv_has ls 3 [(0, .ref (ad 1)), (1, .int y1)] → qWv p l e w_Program_findAddressRegisters 1 21 s m [.ref (ad 1)] below meth c (dC, dI) q_cl (wX cI cZ ad) A R H locs (F0 m 7 ls [])) ∧ (∀ (z0 : ST) (y1 y2 : Int32) (H : Heap) (locs : List Loc) (ls : Array Slot), x_Program_findAddressRegisters_1_f n 2 z0 y1 y2 = some R → va_P (dC, dI) q_cl (wX cI cZ ad z0) H → va_D A (wX cI cZ ad z0) → va_S A s.heap H locs → lv_has ls 3 [(0, .ref (ad 1)), (1, .int y1)] → qWv p l e w_Program_findAddressRegisters 1 21 s m [.ref (ad 1)] below meth c (dC, dI) q_cl (wX cI cZ ad) A R H locs (F0 m 35 ls [])) ∧ (∀ (z0 : ST) (y1 y2 : Int32) (H : Heap) (locs : List Loc) (ls : Array Slot), x_Program_findAddressRegisters_1_f n 3 z0 y1 y2 = some R → va_P (dC, dI) q_cl (wX cI cZ ad z0) H → va_D A (wX cI cZ ad z0) → va_S A s.heap H locs → lv_has ls 3 [(0, .ref (ad 1)), (1, .int y1)] → qWv p l e w_Program_findAddressRegisters 1 21 s m [.ref (ad 1)] below meth c (dC, dI) q_cl (wX cI cZ ad) A R H locs (F0 m 52 ls [])) ∧ (∀ (z0 : ST) (y1 y2 : Int32) (H : Heap) (locs : List Loc) (ls : Array Slot), x_Program_findAddressRegisters_1_f n 4 z0 y1 y2 = some R → va_P (dC, dI) q_cl (wX cI cZ ad z0) H → va_D A (wX cI cZ ad z0) → va_S A s.heap H locs → lv_has ls 3 [(0, .ref (ad 1)), (1, .int y1)] → qWv p l e w_Program_findAddressRegisters 1 21 s m [.ref (ad 1)] below meth c (dC, dI) q_cl (wX cI cZ ad) A R H locs (F0 m 60 ls [])) ∧ (∀ (z0 : ST) (y1 y2 : Int32) (H : Heap) (locs : List Loc) (ls : Array Slot), x_Program_findAddressRegisters_1_f n 5 z0 y1 y2 = some R → va_P (dC, dI) q_cl (wX cI cZ ad z0) H → va_D A (wX cI cZ ad z0) → va_S A s.heap H locs → lv_has ls 3 [(0, .ref (ad 1)), (1, .int y1), (2, .int y2)] → qWv p l e w_Program_findAddressRegisters 1 21 s m [.ref (ad 1)] below meth c (dC, dI) q_cl (wX cI cZ ad) A R H locs (F0 m 68 ls [])) ∧ (∀ (z0 : ST) (y1 y2 : Int32) (H : Heap) (locs : List Loc) (ls : Array Slot), x_Program_findAddressRegisters_1_f n 6 z0 y1 y2 = some R → va_P (dC, dI) q_cl (wX cI cZ ad z0) H → va_D A (wX cI cZ ad z0) → va_S A s.heap H locs → lv_has ls 3 [(0, .ref (ad 1)), (1, .int y1), (2, .int y2)] → qWv p l e w_Program_findAddressRegisters 1 21 s m [.ref (ad 1)] below meth c (dC, dI) q_cl (wX cI cZ ad) A R H locs (F0 m 123 ls [])) := by
    intro n
    induction n with
    | zero => exact ⟨fun z0 y1 y2 H locs ls h hP hD hS hl => (by cases h), fun z0 y1 y2 H locs ls h hP hD hS hl => (by cases h), fun z0 y1 y2 H locs ls h hP hD hS hl => (by cases h), fun z0 y1 y2 H locs ls h hP hD hS hl => (by cases h), fun z0 y1 y2 H locs ls h hP hD hS hl => (by cases h), fun z0 y1 y2 H locs ls h hP hD hS hl => (by cases h), fun z0 y1 y2 H locs ls h hP hD hS hl => (by cases h)⟩
    | succ n ih =>
      obtain ⟨jp_0, jp_7, jp_35, jp_52, jp_60, jp_68, jp_123⟩ := ih
      refine ⟨?_, ?_, ?_, ?_, ?_, ?_, ?_⟩
      · intro z0 y1 y2 H locs ls h hP hD hS hl
        replace h : x_Program_findAddressRegisters_1_g0 (x_Program_findAddressRegisters_1_f n) z0 y1 y2 = some R := h
        unfold x_Program_findAddressRegisters_1_g0 at h
        refine lv_aload_n hx hb d_Program_findAddressRegisters_0 rfl (lv_at hl 0 rfl) ?_
        refine lv_iconst (v := 0) hx hb d_Program_findAddressRegisters_1 (by decide) ?_
        obtain ⟨z1, e1, h⟩ := bnd_e h
        refine xp_1_addressMask hx hb hts hin_Program hown hK hP hD hS (hts _ k_118) (fun _ h9 => h9) d_Program_findAddressRegisters_2 e1 (fun H locs hP hD hS => ?_)
        refine lv_iconst (v := 0) hx hb d_Program_findAddressRegisters_5 (by decide) ?_
        refine lv_istore_n (lv' := [(1, .int 0), (0, .ref (ad 1))]) hx hb d_Program_findAddressRegisters_6 rfl hl (by decide) rfl (fun ls hl => ?_)
        exact jp_7 z1 0 0 _ _ _ h hP hD hS (lv_sub hl [1, 0] rfl)
      · intro z0 y1 y2 H locs ls h hP hD hS hl
        replace h : x_Program_findAddressRegisters_1_g7 (x_Program_findAddressRegisters_1_f n) z0 y1 y2 = some R := h
        unfold x_Program_findAddressRegisters_1_g7 at h
        refine lv_iload_n hx hb d_Program_findAddressRegisters_7 rfl (lv_at hl 1 rfl) ?_
        refine lv_aload_n hx hb d_Program_findAddressRegisters_8 rfl (lv_at hl 0 rfl) ?_
        refine xg_1_size hx hb hts hin_Program hown hK hP (hts _ k_115) (fun _ h9 => h9) d_Program_findAddressRegisters_9 ?_
        refine lv_icmp_ge (tgt := 58) hx hb d_Program_findAddressRegisters_12 (by decide) (fun hc => ?_) (fun hc => ?_)
        · replace h := if_t hc h
          refine lv_iconst (v := 0) hx hb d_Program_findAddressRegisters_58 (by decide) ?_
          refine lv_istore_n (lv' := [(1, .int 0), (0, .ref (ad 1))]) hx hb d_Program_findAddressRegisters_59 rfl hl (by decide) rfl (fun ls hl => ?_)
          exact jp_60 z0 0 0 _ _ _ h hP hD hS (lv_sub hl [1, 0] rfl)
        · replace h := if_f hc h
          refine lv_aload_n hx hb d_Program_findAddressRegisters_15 rfl (lv_at hl 0 rfl) ?_
          refine xg_1_kinds hx hb hts hin_Program hown hK hP (hts _ k_83) (fun _ h9 => h9) d_Program_findAddressRegisters_16 ?_
          refine lv_iload_n hx hb d_Program_findAddressRegisters_19 rfl (lv_at hl 1 rfl) ?_
          obtain ⟨hi, h⟩ := gin_e h
          refine xl_0 hx hb hK hP hi d_Program_findAddressRegisters_20 ?_
          refine lv_iconst (v := 4) hx hb d_Program_findAddressRegisters_21 (by decide) ?_
          refine lv_icmp_eq (tgt := 35) hx hb d_Program_findAddressRegisters_22 (by decide) (fun hc => ?_) (fun hc => ?_)
          · replace h := if_t hc h
            exact jp_35 z0 y1 0 _ _ _ h hP hD hS (lv_sub hl [0, 1] rfl)
          · replace h := if_f hc h
            refine lv_aload_n hx hb d_Program_findAddressRegisters_25 rfl (lv_at hl 0 rfl) ?_
            refine xg_1_kinds hx hb hts hin_Program hown hK hP (hts _ k_83) (fun _ h9 => h9) d_Program_findAddressRegisters_26 ?_
            refine lv_iload_n hx hb d_Program_findAddressRegisters_29 rfl (lv_at hl 1 rfl) ?_
            obtain ⟨hi, h⟩ := gin_e h
            refine xl_0 hx hb hK hP hi d_Program_findAddressRegisters_30 ?_
            refine lv_iconst (v := 5) hx hb d_Program_findAddressRegisters_31 (by decide) ?_
            refine lv_icmp_ne (tgt := 52) hx hb d_Program_findAddressRegisters_32 (by decide) (fun hc => ?_) (fun hc => ?_)
            · replace h := if_f hc h
              exact jp_52 z0 y1 0 _ _ _ h hP hD hS (lv_sub hl [0, 1] rfl)
            · replace h := if_t hc h
              exact jp_35 z0 y1 0 _ _ _ h hP hD hS (lv_sub hl [0, 1] rfl)
      · intro z0 y1 y2 H locs ls h hP hD hS hl
        replace h : x_Program_findAddressRegisters_1_g35 (x_Program_findAddressRegisters_1_f n) z0 y1 y2 = some R := h
        unfold x_Program_findAddressRegisters_1_g35 at h
        refine lv_aload_n hx hb d_Program_findAddressRegisters_35 rfl (lv_at hl 0 rfl) ?_
        refine lv_dup hx hb d_Program_findAddressRegisters_36 rfl ?_
        refine xg_1_addressMask hx hb hts hin_Program hown hK hP (hts _ k_118) (fun _ h9 => h9) d_Program_findAddressRegisters_37 ?_
        refine lv_iconst (v := 1) hx hb d_Program_findAddressRegisters_40 (by decide) ?_
        refine lv_aload_n hx hb d_Program_findAddressRegisters_41 rfl (lv_at hl 0 rfl) ?_
        refine xg_1_bs hx hb hts hin_Program hown hK hP (hts _ k_93) (fun _ h9 => h9) d_Program_findAddressRegisters_42 ?_
        refine lv_iload_n hx hb d_Program_findAddressRegisters_45 rfl (lv_at hl 1 rfl) ?_
        obtain ⟨hi, h⟩ := gin_e h
        refine xl_2 hx hb hK hP hi d_Program_findAddressRegisters_46 ?_
        refine lv_ishl hx hb d_Program_findAddressRegisters_47 ?_
        refine lv_ior hx hb d_Program_findAddressRegisters_48 ?_
        obtain ⟨z2, e2, h⟩ := bnd_e h
        refine xp_1_addressMask hx hb hts hin_Program hown hK hP hD hS (hts _ k_118) (fun _ h9 => h9) d_Program_findAddressRegisters_49 e2 (fun H locs hP hD hS => ?_)
        exact jp_52 z2 y1 0 _ _ _ h hP hD hS (lv_sub hl [0, 1] rfl)
      · intro z0 y1 y2 H locs ls h hP hD hS hl
        replace h : x_Program_findAddressRegisters_1_g52 (x_Program_findAddressRegisters_1_f n) z0 y1 y2 = some R := h
        unfold x_Program_findAddressRegisters_1_g52 at h
        refine lv_iinc (k := 1) (v := y1 + 1) (lv' := [(1, .int (y1 + 1)), (0, .ref (ad 1))]) hx hb d_Program_findAddressRegisters_52 hl rfl rfl (by decide) rfl (fun ls hl => ?_)
        refine lv_goto (tgt := 7) hx hb d_Program_findAddressRegisters_55 (by decide) ?_
        exact jp_7 z0 (y1 + 1) 0 _ _ _ h hP hD hS (lv_sub hl [1, 0] rfl)
      · intro z0 y1 y2 H locs ls h hP hD hS hl
        replace h : x_Program_findAddressRegisters_1_g60 (x_Program_findAddressRegisters_1_f n) z0 y1 y2 = some R := h
        unfold x_Program_findAddressRegisters_1_g60 at h
        refine lv_iload_n hx hb d_Program_findAddressRegisters_60 rfl (lv_at hl 1 rfl) ?_
        refine lv_bipush (v := 8) hx hb d_Program_findAddressRegisters_61 (by decide) ?_
        refine lv_icmp_ge (tgt := 135) hx hb d_Program_findAddressRegisters_63 (by decide) (fun hc => ?_) (fun hc => ?_)
        · replace h := if_t hc h
          exact q_vret hx hb hr hlocks h hP hD hS d_Program_findAddressRegisters_135
        · replace h := if_f hc h
          refine lv_iconst (v := 0) hx hb d_Program_findAddressRegisters_66 (by decide) ?_
          refine lv_istore_n (lv' := [(2, .int 0), (0, .ref (ad 1)), (1, .int y1)]) hx hb d_Program_findAddressRegisters_67 rfl hl (by decide) rfl (fun ls hl => ?_)
          exact jp_68 z0 y1 0 _ _ _ h hP hD hS (lv_sub hl [1, 2, 0] rfl)
      · intro z0 y1 y2 H locs ls h hP hD hS hl
        replace h : x_Program_findAddressRegisters_1_g68 (x_Program_findAddressRegisters_1_f n) z0 y1 y2 = some R := h
        unfold x_Program_findAddressRegisters_1_g68 at h
        refine lv_iload_n hx hb d_Program_findAddressRegisters_68 rfl (lv_at hl 2 rfl) ?_
        refine lv_aload_n hx hb d_Program_findAddressRegisters_69 rfl (lv_at hl 0 rfl) ?_
        refine xg_1_size hx hb hts hin_Program hown hK hP (hts _ k_115) (fun _ h9 => h9) d_Program_findAddressRegisters_70 ?_
        refine lv_icmp_ge (tgt := 129) hx hb d_Program_findAddressRegisters_73 (by decide) (fun hc => ?_) (fun hc => ?_)
        · replace h := if_t hc h
          refine lv_iinc (k := 1) (v := y1 + 1) (lv' := [(1, .int (y1 + 1)), (0, .ref (ad 1)), (2, .int y2)]) hx hb d_Program_findAddressRegisters_129 hl rfl rfl (by decide) rfl (fun ls hl => ?_)
          refine lv_goto (tgt := 60) hx hb d_Program_findAddressRegisters_132 (by decide) ?_
          exact jp_60 z0 (y1 + 1) 0 _ _ _ h hP hD hS (lv_sub hl [1, 0] rfl)
        · replace h := if_f hc h
          refine lv_aload_n hx hb d_Program_findAddressRegisters_76 rfl (lv_at hl 0 rfl) ?_
          refine lv_iload_n hx hb d_Program_findAddressRegisters_77 rfl (lv_at hl 2 rfl) ?_
          obtain ⟨r3, z3, hc3, h⟩ := obn_e h
          refine q_goi (va_runV (As := [.int y2]) (rest := []) ⟨hx, hb, hml, hown, hts⟩ (c_x_Program_isArithmetic_1 l dC dI cI cZ ad z0 y2 _ hc3 _) (cwV 1 hts (q_goodL _ (q_l4 k_405 k_406 k_407 k_54) k_408) rfl rfl rfl (by decide +kernel) ⟨Nat.le_of_ble_eq_true rfl, Nat.le_of_ble_eq_true rfl⟩) (q_preV qok hKK hP hD (va_recv (ci := 1) (q0 := 1) hK hP rfl rfl)) rfl rfl hl.1 rfl (lv_room (Nat.le_of_ble_eq_true rfl)) d_Program_findAddressRegisters_78 ⟨Nat.le_refl _, Nat.le_refl _⟩) hD hS hA (fun H locs hP hD hS => ?_)
          refine lv_if_eq (tgt := 123) hx hb d_Program_findAddressRegisters_81 (by decide) (fun hc => ?_) (fun hc => ?_)
          · replace h := if_t hc h
            exact jp_123 z3 y1 y2 _ _ _ h hP hD hS (lv_sub hl [0, 1, 2] rfl)
          · replace h := if_f hc h
            refine lv_aload_n hx hb d_Program_findAddressRegisters_84 rfl (lv_at hl 0 rfl) ?_
            refine lv_aload_n hx hb d_Program_findAddressRegisters_85 rfl (lv_at hl 0 rfl) ?_
            refine xg_1_as hx hb hts hin_Program hown hK hP (hts _ k_88) (fun _ h9 => h9) d_Program_findAddressRegisters_86 ?_
            refine lv_iload_n hx hb d_Program_findAddressRegisters_89 rfl (lv_at hl 2 rfl) ?_
            obtain ⟨hi, h⟩ := gin_e h
            refine xl_1 hx hb hK hP hi d_Program_findAddressRegisters_90 ?_
            obtain ⟨r4, z4, hc4, h⟩ := obn_e h
            refine q_goi (va_runV (As := [.int (z3.2 1 y2.toNatClampNeg)]) (rest := []) ⟨hx, hb, hml, hown, hts⟩ (c_x_Program_isAddressRegister_1 l dC dI cI cZ ad z3 (z3.2 1 y2.toNatClampNeg) _ hc4 _) (cwV 1 hts (q_goodL _ (q_l4 k_409 k_410 k_411 k_54) k_412) rfl rfl rfl (by decide +kernel) ⟨Nat.le_of_ble_eq_true rfl, Nat.le_of_ble_eq_true rfl⟩) (q_preV qok hKK hP hD (va_recv (ci := 1) (q0 := 1) hK hP rfl rfl)) rfl rfl hl.1 rfl (lv_room (Nat.le_of_ble_eq_true rfl)) d_Program_findAddressRegisters_91 ⟨Nat.le_refl _, Nat.le_refl _⟩) hD hS hA (fun H locs hP hD hS => ?_)
            refine lv_if_eq (tgt := 123) hx hb d_Program_findAddressRegisters_94 (by decide) (fun hc => ?_) (fun hc => ?_)
            · replace h := if_t hc h
              exact jp_123 z4 y1 y2 _ _ _ h hP hD hS (lv_sub hl [0, 1, 2] rfl)
            · replace h := if_f hc h
              refine lv_aload_n hx hb d_Program_findAddressRegisters_97 rfl (lv_at hl 0 rfl) ?_
              refine lv_dup hx hb d_Program_findAddressRegisters_98 rfl ?_
              refine xg_1_addressMask hx hb hts hin_Program hown hK hP (hts _ k_118) (fun _ h9 => h9) d_Program_findAddressRegisters_99 ?_
              refine lv_iconst (v := 1) hx hb d_Program_findAddressRegisters_102 (by decide) ?_
              refine lv_aload_n hx hb d_Program_findAddressRegisters_103 rfl (lv_at hl 0 rfl) ?_
              refine xg_1_bs hx hb hts hin_Program hown hK hP (hts _ k_93) (fun _ h9 => h9) d_Program_findAddressRegisters_104 ?_
              refine lv_iload_n hx hb d_Program_findAddressRegisters_107 rfl (lv_at hl 2 rfl) ?_
              obtain ⟨hi, h⟩ := gin_e h
              refine xl_2 hx hb hK hP hi d_Program_findAddressRegisters_108 ?_
              refine lv_ishl hx hb d_Program_findAddressRegisters_109 ?_
              refine lv_iconst (v := 1) hx hb d_Program_findAddressRegisters_110 (by decide) ?_
              refine lv_aload_n hx hb d_Program_findAddressRegisters_111 rfl (lv_at hl 0 rfl) ?_
              refine xg_1_cs hx hb hts hin_Program hown hK hP (hts _ k_95) (fun _ h9 => h9) d_Program_findAddressRegisters_112 ?_
              refine lv_iload_n hx hb d_Program_findAddressRegisters_115 rfl (lv_at hl 2 rfl) ?_
              obtain ⟨hi, h⟩ := gin_e h
              refine xl_3 hx hb hK hP hi d_Program_findAddressRegisters_116 ?_
              refine lv_ishl hx hb d_Program_findAddressRegisters_117 ?_
              refine lv_ior hx hb d_Program_findAddressRegisters_118 ?_
              refine lv_ior hx hb d_Program_findAddressRegisters_119 ?_
              obtain ⟨z5, e5, h⟩ := bnd_e h
              refine xp_1_addressMask hx hb hts hin_Program hown hK hP hD hS (hts _ k_118) (fun _ h9 => h9) d_Program_findAddressRegisters_120 e5 (fun H locs hP hD hS => ?_)
              exact jp_123 z5 y1 y2 _ _ _ h hP hD hS (lv_sub hl [0, 1, 2] rfl)
      · intro z0 y1 y2 H locs ls h hP hD hS hl
        replace h : x_Program_findAddressRegisters_1_g123 (x_Program_findAddressRegisters_1_f n) z0 y1 y2 = some R := h
        unfold x_Program_findAddressRegisters_1_g123 at h
        refine lv_iinc (k := 2) (v := y2 + 1) (lv' := [(2, .int (y2 + 1)), (0, .ref (ad 1)), (1, .int y1)]) hx hb d_Program_findAddressRegisters_123 hl rfl rfl (by decide) rfl (fun ls hl => ?_)
        refine lv_goto (tgt := 68) hx hb d_Program_findAddressRegisters_126 (by decide) ?_
        exact jp_68 z0 y1 (y2 + 1) _ _ _ h hP hD hS (lv_sub hl [1, 2, 0] rfl)
  exact (key 4000).1 z0 0 0 _ _ _ h hP hD hS (lv_sub hl [0] rfl)
def x_Program_isBranch_1 (z0 : ST) (x1 : Int32) : OR := gin x1 24 (if (z0.2 0 x1.toNatClampNeg) = 6 then (gib 1 (some (1, z0))) else (gin x1 24 (if (z0.2 0 x1.toNatClampNeg) = 7 then (gib 1 (some (1, z0))) else (gib 0 (some (0, z0))))))
set_option maxRecDepth 100000 in
set_option maxHeartbeats 4000000 in
theorem c_x_Program_isBranch_1 (l : Launch) (dC : Nat → ClassId) (dI : Nat → Nat → Nat) (cI cZ : ClassId) (ad : Nat → Nat) (z0 : ST) (x1 : Int32) (R : Int32 × ST) (h : x_Program_isBranch_1 z0 x1 = some R) : qMi l y_Program_isBranch w_Program_isBranch 0 0 (KX dC dI cI cZ) (dC, dI) q_cl (wX cI cZ ad) [.ref (ad 1), .int x1] z0 R := by
  intro sz
  refine Met.ofW (cc := b_Program_isBranch) (maxL := 2) (ret := (some .boolean)) (by decide) rfl ?_
  intro p e s m args below meth c s₁ B hml hv
  obtain ⟨rfl, hsz, hP, hKK, hD0⟩ := hv
  have hx := B.exec
  have hb := B.bytes
  have hr := B.returns
  have hts : ∀ w ∈ q_big, w.before _ s = true := fun w h => atoms_spec (ws := w_Program_isBranch) B.pre w (List.mem_cons_of_mem _ h)
  have hown : s.vm.findClass "SlippedStreams$Program" = some m.cls := findClass_of_methodNamed B.named
  have hlocks := B.notSynchronized
  subst hsz
  have hD := hD0.self (sz := s.heap.size)
  generalize hAe : va_A (wX cI cZ ad z0) s.heap.size = A at hD ⊢
  have hA : ∀ q : Nat, s.heap.size ≤ q → A q := fun q h => by rw [← hAe]; exact Or.inr h
  have hS : va_S A s.heap s.heap [] := va_S.rf
  have hK := hKK.1
  have hl := lv_entry ([.ref (ad 1), .int x1]) (n := 2) (Nat.le_of_ble_eq_true rfl)
  rw [lg_entry_eq]
  generalize (lg_sl ([.ref (ad 1), .int x1]) ++ List.replicate (2 - (lg_sl ([.ref (ad 1), .int x1])).length) Slot.unset).toArray = ls at hl ⊢
  have hl : lv_has ls 2 [(0, .ref (ad 1)), (1, .int x1)] := hl
  unfold x_Program_isBranch_1 at h
  refine lv_aload_n hx hb d_Program_isBranch_0 rfl (lv_at hl 0 rfl) ?_
  refine xg_1_kinds hx hb hts hin_Program hown hK hP (hts _ k_83) (fun _ h9 => h9) d_Program_isBranch_1 ?_
  refine lv_iload_n hx hb d_Program_isBranch_4 rfl (lv_at hl 1 rfl) ?_
  obtain ⟨hi, h⟩ := gin_e h
  refine xl_0 hx hb hK hP hi d_Program_isBranch_5 ?_
  refine lv_bipush (v := 6) hx hb d_Program_isBranch_6 (by decide) ?_
  refine lv_icmp_eq (tgt := 22) hx hb d_Program_isBranch_8 (by decide) (fun hc => ?_) (fun hc => ?_)
  · replace h := if_t hc h
    refine lv_iconst (v := 1) hx hb d_Program_isBranch_22 (by decide) ?_
    refine lv_goto (tgt := 27) hx hb d_Program_isBranch_23 (by decide) ?_
    exact q_zret hx hb hr hlocks h hP hD hS d_Program_isBranch_27
  · replace h := if_f hc h
    refine lv_aload_n hx hb d_Program_isBranch_11 rfl (lv_at hl 0 rfl) ?_
    refine xg_1_kinds hx hb hts hin_Program hown hK hP (hts _ k_83) (fun _ h9 => h9) d_Program_isBranch_12 ?_
    refine lv_iload_n hx hb d_Program_isBranch_15 rfl (lv_at hl 1 rfl) ?_
    obtain ⟨hi, h⟩ := gin_e h
    refine xl_0 hx hb hK hP hi d_Program_isBranch_16 ?_
    refine lv_bipush (v := 7) hx hb d_Program_isBranch_17 (by decide) ?_
    refine lv_icmp_ne (tgt := 26) hx hb d_Program_isBranch_19 (by decide) (fun hc => ?_) (fun hc => ?_)
    · replace h := if_f hc h
      refine lv_iconst (v := 0) hx hb d_Program_isBranch_26 (by decide) ?_
      exact q_zret hx hb hr hlocks h hP hD hS d_Program_isBranch_27
    · replace h := if_t hc h
      refine lv_iconst (v := 1) hx hb d_Program_isBranch_22 (by decide) ?_
      refine lv_goto (tgt := 27) hx hb d_Program_isBranch_23 (by decide) ?_
      exact q_zret hx hb hr hlocks h hP hD hS d_Program_isBranch_27
def x_Program_belongsToAddresses_1 (z0 : ST) (x1 : Int32) : OR := obn (x_Program_isBranch_1 z0 x1) (fun r1 z1 => if r1 = 0 then (gin x1 24 (if (z1.2 0 x1.toNatClampNeg) = 5 then (gib 1 (some (1, z1))) else (gin x1 24 (if (z1.2 0 x1.toNatClampNeg) = 8 then (gib 0 (some (0, z1))) else (gin x1 24 (obn (x_Program_isAddressRegister_1 z1 (z1.2 1 x1.toNatClampNeg)) (fun r2 z2 => if r2 = 0 then (gib 0 (some (0, z2))) else (gib 1 (some (1, z2)))))))))) else (gin x1 24 (obn (x_Program_isAddressRegister_1 z1 (z1.2 1 x1.toNatClampNeg)) (fun r3 z3 => if r3 = 0 then (gib 0 (some (0, z3))) else (gin x1 24 (obn (x_Program_isAddressRegister_1 z3 (z3.2 2 x1.toNatClampNeg)) (fun r4 z4 => if r4 = 0 then (gib 0 (some (0, z4))) else (gib 1 (some (1, z4))))))))))
set_option maxRecDepth 100000 in
set_option maxHeartbeats 4000000 in
theorem c_x_Program_belongsToAddresses_1 (l : Launch) (dC : Nat → ClassId) (dI : Nat → Nat → Nat) (cI cZ : ClassId) (ad : Nat → Nat) (z0 : ST) (x1 : Int32) (R : Int32 × ST) (h : x_Program_belongsToAddresses_1 z0 x1 = some R) : qMi l y_Program_belongsToAddresses w_Program_belongsToAddresses 1 21 (KX dC dI cI cZ) (dC, dI) q_cl (wX cI cZ ad) [.ref (ad 1), .int x1] z0 R := by
  intro sz
  refine Met.ofW (cc := b_Program_belongsToAddresses) (maxL := 2) (ret := (some .boolean)) (by decide) rfl ?_
  intro p e s m args below meth c s₁ B hml hv
  obtain ⟨rfl, hsz, hP, hKK, hD0⟩ := hv
  have hx := B.exec
  have hb := B.bytes
  have hr := B.returns
  have hts : ∀ w ∈ q_big, w.before _ s = true := fun w h => atoms_spec (ws := w_Program_belongsToAddresses) B.pre w (List.mem_cons_of_mem _ h)
  have hown : s.vm.findClass "SlippedStreams$Program" = some m.cls := findClass_of_methodNamed B.named
  have hlocks := B.notSynchronized
  subst hsz
  have hD := hD0.self (sz := s.heap.size)
  generalize hAe : va_A (wX cI cZ ad z0) s.heap.size = A at hD ⊢
  have hA : ∀ q : Nat, s.heap.size ≤ q → A q := fun q h => by rw [← hAe]; exact Or.inr h
  have hS : va_S A s.heap s.heap [] := va_S.rf
  have hK := hKK.1
  have hl := lv_entry ([.ref (ad 1), .int x1]) (n := 2) (Nat.le_of_ble_eq_true rfl)
  rw [lg_entry_eq]
  generalize (lg_sl ([.ref (ad 1), .int x1]) ++ List.replicate (2 - (lg_sl ([.ref (ad 1), .int x1])).length) Slot.unset).toArray = ls at hl ⊢
  have hl : lv_has ls 2 [(0, .ref (ad 1)), (1, .int x1)] := hl
  unfold x_Program_belongsToAddresses_1 at h
  refine lv_aload_n hx hb d_Program_belongsToAddresses_0 rfl (lv_at hl 0 rfl) ?_
  refine lv_iload_n hx hb d_Program_belongsToAddresses_1 rfl (lv_at hl 1 rfl) ?_
  obtain ⟨r1, z1, hc1, h⟩ := obn_e h
  refine q_goi (va_runV (As := [.int x1]) (rest := []) ⟨hx, hb, hml, hown, hts⟩ (c_x_Program_isBranch_1 l dC dI cI cZ ad z0 x1 _ hc1 _) (cwV 1 hts (q_goodL _ (q_l4 k_417 k_418 k_419 k_54) k_420) rfl rfl rfl (by decide +kernel) ⟨Nat.le_of_ble_eq_true rfl, Nat.le_of_ble_eq_true rfl⟩) (q_preV qok hKK hP hD (va_recv (ci := 1) (q0 := 1) hK hP rfl rfl)) rfl rfl hl.1 rfl (lv_room (Nat.le_of_ble_eq_true rfl)) d_Program_belongsToAddresses_2 ⟨Nat.le_refl _, Nat.le_refl _⟩) hD hS hA (fun H locs hP hD hS => ?_)
  refine lv_if_eq (tgt := 40) hx hb d_Program_belongsToAddresses_5 (by decide) (fun hc => ?_) (fun hc => ?_)
  · replace h := if_t hc h
    refine lv_aload_n hx hb d_Program_belongsToAddresses_40 rfl (lv_at hl 0 rfl) ?_
    refine xg_1_kinds hx hb hts hin_Program hown hK hP (hts _ k_83) (fun _ h9 => h9) d_Program_belongsToAddresses_41 ?_
    refine lv_iload_n hx hb d_Program_belongsToAddresses_44 rfl (lv_at hl 1 rfl) ?_
    obtain ⟨hi, h⟩ := gin_e h
    refine xl_0 hx hb hK hP hi d_Program_belongsToAddresses_45 ?_
    refine lv_iconst (v := 5) hx hb d_Program_belongsToAddresses_46 (by decide) ?_
    refine lv_icmp_eq (tgt := 74) hx hb d_Program_belongsToAddresses_47 (by decide) (fun hc => ?_) (fun hc => ?_)
    · replace h := if_t hc h
      refine lv_iconst (v := 1) hx hb d_Program_belongsToAddresses_74 (by decide) ?_
      refine lv_goto (tgt := 79) hx hb d_Program_belongsToAddresses_75 (by decide) ?_
      exact q_zret hx hb hr hlocks h hP hD hS d_Program_belongsToAddresses_79
    · replace h := if_f hc h
      refine lv_aload_n hx hb d_Program_belongsToAddresses_50 rfl (lv_at hl 0 rfl) ?_
      refine xg_1_kinds hx hb hts hin_Program hown hK hP (hts _ k_83) (fun _ h9 => h9) d_Program_belongsToAddresses_51 ?_
      refine lv_iload_n hx hb d_Program_belongsToAddresses_54 rfl (lv_at hl 1 rfl) ?_
      obtain ⟨hi, h⟩ := gin_e h
      refine xl_0 hx hb hK hP hi d_Program_belongsToAddresses_55 ?_
      refine lv_bipush (v := 8) hx hb d_Program_belongsToAddresses_56 (by decide) ?_
      refine lv_icmp_eq (tgt := 78) hx hb d_Program_belongsToAddresses_58 (by decide) (fun hc => ?_) (fun hc => ?_)
      · replace h := if_t hc h
        refine lv_iconst (v := 0) hx hb d_Program_belongsToAddresses_78 (by decide) ?_
        exact q_zret hx hb hr hlocks h hP hD hS d_Program_belongsToAddresses_79
      · replace h := if_f hc h
        refine lv_aload_n hx hb d_Program_belongsToAddresses_61 rfl (lv_at hl 0 rfl) ?_
        refine lv_aload_n hx hb d_Program_belongsToAddresses_62 rfl (lv_at hl 0 rfl) ?_
        refine xg_1_as hx hb hts hin_Program hown hK hP (hts _ k_88) (fun _ h9 => h9) d_Program_belongsToAddresses_63 ?_
        refine lv_iload_n hx hb d_Program_belongsToAddresses_66 rfl (lv_at hl 1 rfl) ?_
        obtain ⟨hi, h⟩ := gin_e h
        refine xl_1 hx hb hK hP hi d_Program_belongsToAddresses_67 ?_
        obtain ⟨r2, z2, hc2, h⟩ := obn_e h
        refine q_goi (va_runV (As := [.int (z1.2 1 x1.toNatClampNeg)]) (rest := []) ⟨hx, hb, hml, hown, hts⟩ (c_x_Program_isAddressRegister_1 l dC dI cI cZ ad z1 (z1.2 1 x1.toNatClampNeg) _ hc2 _) (cwV 1 hts (q_goodL _ (q_l4 k_409 k_410 k_411 k_54) k_412) rfl rfl rfl (by decide +kernel) ⟨Nat.le_of_ble_eq_true rfl, Nat.le_of_ble_eq_true rfl⟩) (q_preV qok hKK hP hD (va_recv (ci := 1) (q0 := 1) hK hP rfl rfl)) rfl rfl hl.1 rfl (lv_room (Nat.le_of_ble_eq_true rfl)) d_Program_belongsToAddresses_68 ⟨Nat.le_refl _, Nat.le_refl _⟩) hD hS hA (fun H locs hP hD hS => ?_)
        refine lv_if_eq (tgt := 78) hx hb d_Program_belongsToAddresses_71 (by decide) (fun hc => ?_) (fun hc => ?_)
        · replace h := if_t hc h
          refine lv_iconst (v := 0) hx hb d_Program_belongsToAddresses_78 (by decide) ?_
          exact q_zret hx hb hr hlocks h hP hD hS d_Program_belongsToAddresses_79
        · replace h := if_f hc h
          refine lv_iconst (v := 1) hx hb d_Program_belongsToAddresses_74 (by decide) ?_
          refine lv_goto (tgt := 79) hx hb d_Program_belongsToAddresses_75 (by decide) ?_
          exact q_zret hx hb hr hlocks h hP hD hS d_Program_belongsToAddresses_79
  · replace h := if_f hc h
    refine lv_aload_n hx hb d_Program_belongsToAddresses_8 rfl (lv_at hl 0 rfl) ?_
    refine lv_aload_n hx hb d_Program_belongsToAddresses_9 rfl (lv_at hl 0 rfl) ?_
    refine xg_1_as hx hb hts hin_Program hown hK hP (hts _ k_88) (fun _ h9 => h9) d_Program_belongsToAddresses_10 ?_
    refine lv_iload_n hx hb d_Program_belongsToAddresses_13 rfl (lv_at hl 1 rfl) ?_
    obtain ⟨hi, h⟩ := gin_e h
    refine xl_1 hx hb hK hP hi d_Program_belongsToAddresses_14 ?_
    obtain ⟨r3, z3, hc3, h⟩ := obn_e h
    refine q_goi (va_runV (As := [.int (z1.2 1 x1.toNatClampNeg)]) (rest := []) ⟨hx, hb, hml, hown, hts⟩ (c_x_Program_isAddressRegister_1 l dC dI cI cZ ad z1 (z1.2 1 x1.toNatClampNeg) _ hc3 _) (cwV 1 hts (q_goodL _ (q_l4 k_409 k_410 k_411 k_54) k_412) rfl rfl rfl (by decide +kernel) ⟨Nat.le_of_ble_eq_true rfl, Nat.le_of_ble_eq_true rfl⟩) (q_preV qok hKK hP hD (va_recv (ci := 1) (q0 := 1) hK hP rfl rfl)) rfl rfl hl.1 rfl (lv_room (Nat.le_of_ble_eq_true rfl)) d_Program_belongsToAddresses_15 ⟨Nat.le_refl _, Nat.le_refl _⟩) hD hS hA (fun H locs hP hD hS => ?_)
    refine lv_if_eq (tgt := 38) hx hb d_Program_belongsToAddresses_18 (by decide) (fun hc => ?_) (fun hc => ?_)
    · replace h := if_t hc h
      refine lv_iconst (v := 0) hx hb d_Program_belongsToAddresses_38 (by decide) ?_
      exact q_zret hx hb hr hlocks h hP hD hS d_Program_belongsToAddresses_39
    · replace h := if_f hc h
      refine lv_aload_n hx hb d_Program_belongsToAddresses_21 rfl (lv_at hl 0 rfl) ?_
      refine lv_aload_n hx hb d_Program_belongsToAddresses_22 rfl (lv_at hl 0 rfl) ?_
      refine xg_1_bs hx hb hts hin_Program hown hK hP (hts _ k_93) (fun _ h9 => h9) d_Program_belongsToAddresses_23 ?_
      refine lv_iload_n hx hb d_Program_belongsToAddresses_26 rfl (lv_at hl 1 rfl) ?_
      obtain ⟨hi, h⟩ := gin_e h
      refine xl_2 hx hb hK hP hi d_Program_belongsToAddresses_27 ?_
      obtain ⟨r4, z4, hc4, h⟩ := obn_e h
      refine q_goi (va_runV (As := [.int (z3.2 2 x1.toNatClampNeg)]) (rest := []) ⟨hx, hb, hml, hown, hts⟩ (c_x_Program_isAddressRegister_1 l dC dI cI cZ ad z3 (z3.2 2 x1.toNatClampNeg) _ hc4 _) (cwV 1 hts (q_goodL _ (q_l4 k_409 k_410 k_411 k_54) k_412) rfl rfl rfl (by decide +kernel) ⟨Nat.le_of_ble_eq_true rfl, Nat.le_of_ble_eq_true rfl⟩) (q_preV qok hKK hP hD (va_recv (ci := 1) (q0 := 1) hK hP rfl rfl)) rfl rfl hl.1 rfl (lv_room (Nat.le_of_ble_eq_true rfl)) d_Program_belongsToAddresses_28 ⟨Nat.le_refl _, Nat.le_refl _⟩) hD hS hA (fun H locs hP hD hS => ?_)
      refine lv_if_eq (tgt := 38) hx hb d_Program_belongsToAddresses_31 (by decide) (fun hc => ?_) (fun hc => ?_)
      · replace h := if_t hc h
        refine lv_iconst (v := 0) hx hb d_Program_belongsToAddresses_38 (by decide) ?_
        exact q_zret hx hb hr hlocks h hP hD hS d_Program_belongsToAddresses_39
      · replace h := if_f hc h
        refine lv_iconst (v := 1) hx hb d_Program_belongsToAddresses_34 (by decide) ?_
        refine lv_goto (tgt := 39) hx hb d_Program_belongsToAddresses_35 (by decide) ?_
        exact q_zret hx hb hr hlocks h hP hD hS d_Program_belongsToAddresses_39
