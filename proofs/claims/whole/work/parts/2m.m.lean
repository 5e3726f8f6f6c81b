def m_howMany (z0 : ST) (x1 : Int32) : OR := obn (m_handed z0 x1 1) (fun r1 z1 => if r1 < 0 then (obn (m_handed z1 x1 0) (fun r2 z2 => if r2 < 0 then (some (0, z2)) else (some (1, z2)))) else (some (2, z1)))
set_option maxRecDepth 100000 in
set_option maxHeartbeats 4000000 in
theorem c_m_howMany (l : Launch) (dC : Nat → ClassId) (dI : Nat → Nat → Nat) (cI cZ : ClassId) (ad : Nat → Nat) (z0 : ST) (x1 : Int32) (R : Int32 × ST) (h : m_howMany z0 x1 = some R) : qMi l y_SlippedStreamsModel_howMany w_SlippedStreamsModel_howMany 3 69 (KX dC dI cI cZ) (dC, dI) q_cl (wM cI cZ ad) [.ref (ad 0), .int x1] z0 R := by
  intro sz
  refine Met.ofW (cc := b_SlippedStreamsModel_howMany) (maxL := 2) (ret := (some .int)) (by decide) rfl ?_
  intro p e s m args below meth c s₁ B hml hv
  obtain ⟨rfl, hsz, hP, hKK, hD0⟩ := hv
  have hx := B.exec
  have hb := B.bytes
  have hr := B.returns
  have hts : ∀ w ∈ q_big, w.before _ s = true := fun w h => atoms_spec (ws := w_SlippedStreamsModel_howMany) B.pre w (List.mem_cons_of_mem _ h)
  have hown : s.vm.findClass "SlippedStreamsModel" = some m.cls := findClass_of_methodNamed B.named
  have hlocks := B.notSynchronized
  subst hsz
  have hD := hD0.self (sz := s.heap.size)
  generalize hAe : va_A (wM cI cZ ad z0) s.heap.size = A at hD ⊢
  have hA : ∀ q : Nat, s.heap.size ≤ q → A q := fun q h => by rw [← hAe]; exact Or.inr h
  have hS : va_S A s.heap s.heap [] := va_S.rf
  have hK := hKK.1
  have hl := lv_entry ([.ref (ad 0), .int x1]) (n := 2) (Nat.le_of_ble_eq_true rfl)
  rw [lg_entry_eq]
  generalize (lg_sl ([.ref (ad 0), .int x1]) ++ List.replicate (2 - (lg_sl ([.ref (ad 0), .int x1])).length) Slot.unset).toArray = ls at hl ⊢
  have hl : lv_has ls 2 [(0, .ref (ad 0)), (1, .int x1)] := hl
  unfold m_howMany at h
  refine lv_aload_n hx hb d_SlippedStreamsModel_howMany_0 rfl (lv_at hl 0 rfl) ?_
  refine lv_iload_n hx hb d_SlippedStreamsModel_howMany_1 rfl (lv_at hl 1 rfl) ?_
  refine lv_iconst (v := 1) hx hb d_SlippedStreamsModel_howMany_2 (by decide) ?_
  obtain ⟨r1, z1, hc1, h⟩ := obn_e h
  refine q_goi (va_runV (As := [.int x1, .int 1]) (rest := []) ⟨hx, hb, hml, hown, hts⟩ (c_m_handed l dC dI cI cZ ad z0 x1 1 _ hc1 _) (cwV 2 hts (q_goodL _ (q_l4 k_933 k_935 k_33 k_64) k_936) rfl rfl rfl (by decide +kernel) ⟨Nat.le_of_ble_eq_true rfl, Nat.le_of_ble_eq_true rfl⟩) (q_preV qok hKK hP hD (va_recv (ci := 9) (q0 := 0) hK hP rfl rfl)) rfl rfl hl.1 rfl (lv_room (Nat.le_of_ble_eq_true rfl)) d_SlippedStreamsModel_howMany_3 ⟨Nat.le_refl _, Nat.le_refl _⟩) hD hS hA (fun H locs hP hD hS => ?_)
  refine lv_if_lt (tgt := 13) hx hb d_SlippedStreamsModel_howMany_6 (by decide) (fun hc => ?_) (fun hc => ?_)
  · replace h := if_t hc h
    refine lv_aload_n hx hb d_SlippedStreamsModel_howMany_13 rfl (lv_at hl 0 rfl) ?_
    refine lv_iload_n hx hb d_SlippedStreamsModel_howMany_14 rfl (lv_at hl 1 rfl) ?_
    refine lv_iconst (v := 0) hx hb d_SlippedStreamsModel_howMany_15 (by decide) ?_
    obtain ⟨r2, z2, hc2, h⟩ := obn_e h
    refine q_goi (va_runV (As := [.int x1, .int 0]) (rest := []) ⟨hx, hb, hml, hown, hts⟩ (c_m_handed l dC dI cI cZ ad z1 x1 0 _ hc2 _) (cwV 2 hts (q_goodL _ (q_l4 k_933 k_935 k_33 k_64) k_936) rfl rfl rfl (by decide +kernel) ⟨Nat.le_of_ble_eq_true rfl, Nat.le_of_ble_eq_true rfl⟩) (q_preV qok hKK hP hD (va_recv (ci := 9) (q0 := 0) hK hP rfl rfl)) rfl rfl hl.1 rfl (lv_room (Nat.le_of_ble_eq_true rfl)) d_SlippedStreamsModel_howMany_16 ⟨Nat.le_refl _, Nat.le_refl _⟩) hD hS hA (fun H locs hP hD hS => ?_)
    refine lv_if_lt (tgt := 26) hx hb d_SlippedStreamsModel_howMany_19 (by decide) (fun hc => ?_) (fun hc => ?_)
    · replace h := if_t hc h
      refine lv_iconst (v := 0) hx hb d_SlippedStreamsModel_howMany_26 (by decide) ?_
      exact q_iret hx hb hr hlocks h hP hD hS d_SlippedStreamsModel_howMany_27
    · replace h := if_f hc h
      refine lv_iconst (v := 1) hx hb d_SlippedStreamsModel_howMany_22 (by decide) ?_
      refine lv_goto (tgt := 27) hx hb d_SlippedStreamsModel_howMany_23 (by decide) ?_
      exact q_iret hx hb hr hlocks h hP hD hS d_SlippedStreamsModel_howMany_27
  · replace h := if_f hc h
    refine lv_iconst (v := 2) hx hb d_SlippedStreamsModel_howMany_9 (by decide) ?_
    refine lv_goto (tgt := 27) hx hb d_SlippedStreamsModel_howMany_10 (by decide) ?_
    exact q_iret hx hb hr hlocks h hP hD hS d_SlippedStreamsModel_howMany_27
def m_isNothing (z0 : ST) (x1 x2 : Int32) : OR := gin x2 24 (obn (m_isBranch z0 x2) (fun r1 z1 => if r1 = 0 then (if x1 = 0 then (obn (m_belongs z1 x2) (fun r3 z3 => if r3 = 1 then (if (z0.2 0 x2.toNatClampNeg) = 4 then (gib 0 (some (0, z3))) else (obn (m_howMany z3 x2) (fun r4 z4 => if r4 = 0 then (gib 1 (some (1, z4))) else (gib 0 (some (0, z4)))))) else (gib 0 (some (0, z3))))) else (obn (m_belongs z1 x2) (fun r2 z2 => if r2 = 0 then (if (z0.2 0 x2.toNatClampNeg) = 5 then (gin x2 24 (gin (z2.2 1 x2.toNatClampNeg) 8 (if (z2.2 4 (z2.2 1 x2.toNatClampNeg).toNatClampNeg) = 0 then (gib 0 (some (0, z2))) else (gib 1 (some (1, z2)))))) else (gib 1 (some (1, z2)))) else (gib 0 (some (0, z2)))))) else (gib 0 (some (0, z1)))))
set_option maxRecDepth 100000 in
set_option maxHeartbeats 4000000 in
theorem c_m_isNothing (l : Launch) (dC : Nat → ClassId) (dI : Nat → Nat → Nat) (cI cZ : ClassId) (ad : Nat → Nat) (z0 : ST) (x1 x2 : Int32) (R : Int32 × ST) (h : m_isNothing z0 x1 x2 = some R) : qMi l y_SlippedStreamsModel_isNothing w_SlippedStreamsModel_isNothing 4 90 (KX dC dI cI cZ) (dC, dI) q_cl (wM cI cZ ad) [.ref (ad 0), .int x1, .int x2] z0 R := by
  intro sz
  refine Met.ofW (cc := b_SlippedStreamsModel_isNothing) (maxL := 4) (ret := (some .boolean)) (by decide) rfl ?_
  intro p e s m args below meth c s₁ B hml hv
  obtain ⟨rfl, hsz, hP, hKK, hD0⟩ := hv
  have hx := B.exec
  have hb := B.bytes
  have hr := B.returns
  have hts : ∀ w ∈ q_big, w.before _ s = true := fun w h => atoms_spec (ws := w_SlippedStreamsModel_isNothing) B.pre w (List.mem_cons_of_mem _ h)
  have hown : s.vm.findClass "SlippedStreamsModel" = some m.cls := findClass_of_methodNamed B.named
  have hlocks := B.notSynchronized
  subst hsz
  have hD := hD0.self (sz := s.heap.size)
  generalize hAe : va_A (wM cI cZ ad z0) s.heap.size = A at hD ⊢
  have hA : ∀ q : Nat, s.heap.size ≤ q → A q := fun q h => by rw [← hAe]; exact Or.inr h
  have hS : va_S A s.heap s.heap [] := va_S.rf
  have hK := hKK.1
  have hl := lv_entry ([.ref (ad 0), .int x1, .int x2]) (n := 4) (Nat.le_of_ble_eq_true rfl)
  rw [lg_entry_eq]
  generalize (lg_sl ([.ref (ad 0), .int x1, .int x2]) ++ List.replicate (4 - (lg_sl ([.ref (ad 0), .int x1, .int x2])).length) Slot.unset).toArray = ls at hl ⊢
  have hl : lv_has ls 4 [(0, .ref (ad 0)), (1, .int x1), (2, .int x2)] := hl
  unfold m_isNothing at h
  refine lv_aload_n hx hb d_SlippedStreamsModel_isNothing_0 rfl (lv_at hl 0 rfl) ?_
  refine mg_0_kinds hx hb hts hin_SlippedStreamsModel hown hK hP (hts _ k_814) (fun _ h9 => h9) d_SlippedStreamsModel_isNothing_1 ?_
  refine lv_iload_n hx hb d_SlippedStreamsModel_isNothing_4 rfl (lv_at hl 2 rfl) ?_
  obtain ⟨hi, h⟩ := gin_e h
  refine ml_0 hx hb hK hP hi d_SlippedStreamsModel_isNothing_5 ?_
  refine lv_istore_n (lv' := [(3, .int (z0.2 0 x2.toNatClampNeg)), (0, .ref (ad 0)), (1, .int x1), (2, .int x2)]) hx hb d_SlippedStreamsModel_isNothing_6 rfl hl (by decide) rfl (fun ls hl => ?_)
  refine lv_aload_n hx hb d_SlippedStreamsModel_isNothing_7 rfl (lv_at hl 1 rfl) ?_
  refine lv_iload_n hx hb d_SlippedStreamsModel_isNothing_8 rfl (lv_at hl 3 rfl) ?_
  obtain ⟨r1, z1, hc1, h⟩ := obn_e h
  refine q_goi (va_runV (As := [.int x2]) (rest := []) ⟨hx, hb, hml, hown, hts⟩ (c_m_isBranch l dC dI cI cZ ad z0 x2 _ hc1 _) (cwV 1 hts (q_goodL _ (q_l4 k_921 k_923 k_30 k_64) k_924) rfl rfl rfl (by decide +kernel) ⟨Nat.le_of_ble_eq_true rfl, Nat.le_of_ble_eq_true rfl⟩) (q_preV qok hKK hP hD (va_recv (ci := 9) (q0 := 0) hK hP rfl rfl)) rfl rfl hl.1 rfl (lv_room (Nat.le_of_ble_eq_true rfl)) d_SlippedStreamsModel_isNothing_9 ⟨Nat.le_refl _, Nat.le_refl _⟩) hD hS hA (fun H locs hP hD hS => ?_)
  refine lv_if_eq (tgt := 17) hx hb d_SlippedStreamsModel_isNothing_12 (by decide) (fun hc => ?_) (fun hc => ?_)
  · replace h := if_t hc h
    refine lv_iload_n hx hb d_SlippedStreamsModel_isNothing_17 rfl (lv_at hl 2 rfl) ?_
    refine lv_if_ne (tgt := 49) hx hb d_SlippedStreamsModel_isNothing_18 (by decide) (fun hc => ?_) (fun hc => ?_)
    · replace h := if_f hc h
      refine lv_aload_n hx hb d_SlippedStreamsModel_isNothing_49 rfl (lv_at hl 1 rfl) ?_
      refine lv_iload_n hx hb d_SlippedStreamsModel_isNothing_50 rfl (lv_at hl 3 rfl) ?_
      obtain ⟨r2, z2, hc2, h⟩ := obn_e h
      refine q_goi (va_runV (As := [.int x2]) (rest := []) ⟨hx, hb, hml, hown, hts⟩ (c_m_belongs l dC dI cI cZ ad z1 x2 _ hc2 _) (cwV 1 hts (q_goodL _ (q_l4 k_925 k_927 k_31 k_64) k_928) rfl rfl rfl (by decide +kernel) ⟨Nat.le_of_ble_eq_true rfl, Nat.le_of_ble_eq_true rfl⟩) (q_preV qok hKK hP hD (va_recv (ci := 9) (q0 := 0) hK hP rfl rfl)) rfl rfl hl.1 rfl (lv_room (Nat.le_of_ble_eq_true rfl)) d_SlippedStreamsModel_isNothing_51 ⟨Nat.le_refl _, Nat.le_refl _⟩) hD hS hA (fun H locs hP hD hS => ?_)
      refine lv_if_ne (tgt := 80) hx hb d_SlippedStreamsModel_isNothing_54 (by decide) (fun hc => ?_) (fun hc => ?_)
      · replace h := if_f hc h
        refine lv_iconst (v := 0) hx hb d_SlippedStreamsModel_isNothing_80 (by decide) ?_
        exact q_zret hx hb hr hlocks h hP hD hS d_SlippedStreamsModel_isNothing_81
      · replace h := if_t hc h
        refine lv_iload_n hx hb d_SlippedStreamsModel_isNothing_57 rfl (lv_at hl 0 rfl) ?_
        refine lv_iconst (v := 5) hx hb d_SlippedStreamsModel_isNothing_58 (by decide) ?_
        refine lv_icmp_ne (tgt := 76) hx hb d_SlippedStreamsModel_isNothing_59 (by decide) (fun hc => ?_) (fun hc => ?_)
        · replace h := if_f hc h
          refine lv_iconst (v := 1) hx hb d_SlippedStreamsModel_isNothing_76 (by decide) ?_
          refine lv_goto (tgt := 81) hx hb d_SlippedStreamsModel_isNothing_77 (by decide) ?_
          exact q_zret hx hb hr hlocks h hP hD hS d_SlippedStreamsModel_isNothing_81
        · replace h := if_t hc h
          refine lv_aload_n hx hb d_SlippedStreamsModel_isNothing_62 rfl (lv_at hl 1 rfl) ?_
          refine mg_0_isAddress hx hb hts hin_SlippedStreamsModel hown hK hP (hts _ k_820) (fun _ h9 => h9) d_SlippedStreamsModel_isNothing_63 ?_
          refine lv_aload_n hx hb d_SlippedStreamsModel_isNothing_66 rfl (lv_at hl 1 rfl) ?_
          refine mg_0_as hx hb hts hin_SlippedStreamsModel hown hK hP (hts _ k_815) (fun _ h9 => h9) d_SlippedStreamsModel_isNothing_67 ?_
          refine lv_iload_n hx hb d_SlippedStreamsModel_isNothing_70 rfl (lv_at hl 3 rfl) ?_
          obtain ⟨hi, h⟩ := gin_e h
          refine ml_1 hx hb hK hP hi d_SlippedStreamsModel_isNothing_71 ?_
          obtain ⟨hi, h⟩ := gin_e h
          refine ml_4 hx hb hK hP hi d_SlippedStreamsModel_isNothing_72 ?_
          refine lv_if_eq (tgt := 80) hx hb d_SlippedStreamsModel_isNothing_73 (by decide) (fun hc => ?_) (fun hc => ?_)
          · replace h := if_t hc h
            refine lv_iconst (v := 0) hx hb d_SlippedStreamsModel_isNothing_80 (by decide) ?_
            exact q_zret hx hb hr hlocks h hP hD hS d_SlippedStreamsModel_isNothing_81
          · replace h := if_f hc h
            refine lv_iconst (v := 1) hx hb d_SlippedStreamsModel_isNothing_76 (by decide) ?_
            refine lv_goto (tgt := 81) hx hb d_SlippedStreamsModel_isNothing_77 (by decide) ?_
            exact q_zret hx hb hr hlocks h hP hD hS d_SlippedStreamsModel_isNothing_81
    · replace h := if_t hc h
      refine lv_aload_n hx hb d_SlippedStreamsModel_isNothing_21 rfl (lv_at hl 1 rfl) ?_
      refine lv_iload_n hx hb d_SlippedStreamsModel_isNothing_22 rfl (lv_at hl 3 rfl) ?_
      obtain ⟨r3, z3, hc3, h⟩ := obn_e h
      refine q_goi (va_runV (As := [.int x2]) (rest := []) ⟨hx, hb, hml, hown, hts⟩ (c_m_belongs l dC dI cI cZ ad z1 x2 _ hc3 _) (cwV 1 hts (q_goodL _ (q_l4 k_925 k_927 k_31 k_64) k_928) rfl rfl rfl (by decide +kernel) ⟨Nat.le_of_ble_eq_true rfl, Nat.le_of_ble_eq_true rfl⟩) (q_preV qok hKK hP hD (va_recv (ci := 9) (q0 := 0) hK hP rfl rfl)) rfl rfl hl.1 rfl (lv_room (Nat.le_of_ble_eq_true rfl)) d_SlippedStreamsModel_isNothing_23 ⟨Nat.le_refl _, Nat.le_refl _⟩) hD hS hA (fun H locs hP hD hS => ?_)
      refine lv_iconst (v := 1) hx hb d_SlippedStreamsModel_isNothing_26 (by decide) ?_
      refine lv_icmp_ne (tgt := 47) hx hb d_SlippedStreamsModel_isNothing_27 (by decide) (fun hc => ?_) (fun hc => ?_)
      · replace h := if_f hc h
        refine lv_iconst (v := 0) hx hb d_SlippedStreamsModel_isNothing_47 (by decide) ?_
        exact q_zret hx hb hr hlocks h hP hD hS d_SlippedStreamsModel_isNothing_48
      · replace h := if_t hc h
        refine lv_iload_n hx hb d_SlippedStreamsModel_isNothing_30 rfl (lv_at hl 0 rfl) ?_
        refine lv_iconst (v := 4) hx hb d_SlippedStreamsModel_isNothing_31 (by decide) ?_
        refine lv_icmp_eq (tgt := 47) hx hb d_SlippedStreamsModel_isNothing_32 (by decide) (fun hc => ?_) (fun hc => ?_)
        · replace h := if_t hc h
          refine lv_iconst (v := 0) hx hb d_SlippedStreamsModel_isNothing_47 (by decide) ?_
          exact q_zret hx hb hr hlocks h hP hD hS d_SlippedStreamsModel_isNothing_48
        · replace h := if_f hc h
          refine lv_aload_n hx hb d_SlippedStreamsModel_isNothing_35 rfl (lv_at hl 1 rfl) ?_
          refine lv_iload_n hx hb d_SlippedStreamsModel_isNothing_36 rfl (lv_at hl 3 rfl) ?_
          obtain ⟨r4, z4, hc4, h⟩ := obn_e h
          refine q_goi (va_runV (As := [.int x2]) (rest := []) ⟨hx, hb, hml, hown, hts⟩ (c_m_howMany l dC dI cI cZ ad z3 x2 _ hc4 _) (cwV 1 hts (q_goodL _ (q_l4 k_929 k_931 k_32 k_64) k_932) rfl rfl rfl (by decide +kernel) ⟨Nat.le_of_ble_eq_true rfl, Nat.le_of_ble_eq_true rfl⟩) (q_preV qok hKK hP hD (va_recv (ci := 9) (q0 := 0) hK hP rfl rfl)) rfl rfl hl.1 rfl (lv_room (Nat.le_of_ble_eq_true rfl)) d_SlippedStreamsModel_isNothing_37 ⟨Nat.le_refl _, Nat.le_refl _⟩) hD hS hA (fun H locs hP hD hS => ?_)
          refine lv_if_ne (tgt := 47) hx hb d_SlippedStreamsModel_isNothing_40 (by decide) (fun hc => ?_) (fun hc => ?_)
          · replace h := if_f hc h
            refine lv_iconst (v := 0) hx hb d_SlippedStreamsModel_isNothing_47 (by decide) ?_
            exact q_zret hx hb hr hlocks h hP hD hS d_SlippedStreamsModel_isNothing_48
          · replace h := if_t hc h
            refine lv_iconst (v := 1) hx hb d_SlippedStreamsModel_isNothing_43 (by decide) ?_
            refine lv_goto (tgt := 48) hx hb d_SlippedStreamsModel_isNothing_44 (by decide) ?_
            exact q_zret hx hb hr hlocks h hP hD hS d_SlippedStreamsModel_isNothing_48
  · replace h := if_f hc h
    refine lv_iconst (v := 0) hx hb d_SlippedStreamsModel_isNothing_15 (by decide) ?_
    exact q_zret hx hb hr hlocks h hP hD hS d_SlippedStreamsModel_isNothing_16
def m_goOver_g0 (k : Nat → ST → Int32 → OR) (z0 : ST) (y1 : Int32) : OR := gin y1 2 (if (z0.1 0) ≤ (z0.2 6 y1.toNatClampNeg) then (some (0, z0)) else (gin y1 2 (obn (m_isNothing z0 y1 (z0.2 6 y1.toNatClampNeg)) (fun r1 z1 => if r1 = 0 then (some (0, z1)) else (gin y1 2 (gin y1 2 (bnd (stA z1 6 (upd (z1.2 6) y1.toNatClampNeg ((z1.2 6 y1.toNatClampNeg) + 1))) (fun z2 => gin y1 2 (gin y1 2 (bnd (stA z2 7 (upd (z2.2 7) y1.toNatClampNeg ((z2.2 7 y1.toNatClampNeg) + 1))) (fun z3 => k 0 z3 y1)))))))))))
def m_goOver_g (k : Nat → ST → Int32 → OR) (n : Nat) : ST → Int32 → OR := match n with
  | 0 => m_goOver_g0 k
  | _ => fun _ _ => none
def m_goOver_f : Nat → Nat → ST → Int32 → OR
  | 0 => fun _ _ _ => none
  | n + 1 => m_goOver_g (m_goOver_f n)
def m_goOver (z0 : ST) (x1 : Int32) : OR := m_goOver_f 4000 0 z0 x1
set_option maxRecDepth 100000 in
set_option maxHeartbeats 4000000 in
theorem c_m_goOver (l : Launch) (dC : Nat → ClassId) (dI : Nat → Nat → Nat) (cI cZ : ClassId) (ad : Nat → Nat) (z0 : ST) (x1 : Int32) (R : Int32 × ST) (h : m_goOver z0 x1 = some R) : qMv l y_SlippedStreamsModel_goOver w_SlippedStreamsModel_goOver 5 113 (KX dC dI cI cZ) (dC, dI) q_cl (wM cI cZ ad) [.ref (ad 0), .int x1] z0 R := by
  intro sz
  refine Met.ofW (cc := b_SlippedStreamsModel_goOver) (maxL := 2) (ret := none) (by decide) rfl ?_
  intro p e s m args below meth c s₁ B hml hv
  obtain ⟨rfl, hsz, hP, hKK, hD0⟩ := hv
  have hx := B.exec
  have hb := B.bytes
  have hr := B.returns
  have hts : ∀ w ∈ q_big, w.before _ s = true := fun w h => atoms_spec (ws := w_SlippedStreamsModel_goOver) B.pre w (List.mem_cons_of_mem _ h)
  have hown : s.vm.findClass "SlippedStreamsModel" = some m.cls := findClass_of_methodNamed B.named
  have hlocks := B.notSynchronized
  subst hsz
  have hD := hD0.self (sz := s.heap.size)
  generalize hAe : va_A (wM cI cZ ad z0) s.heap.size = A at hD ⊢
  have hA : ∀ q : Nat, s.heap.size ≤ q → A q := fun q h => by rw [← hAe]; exact Or.inr h
  have hS : va_S A s.heap s.heap [] := va_S.rf
  have hK := hKK.1
  have hl := lv_entry ([.ref (ad 0), .int x1]) (n := 2) (Nat.le_of_ble_eq_true rfl)
  rw [lg_entry_eq]
  generalize (lg_sl ([.ref (ad 0), .int x1]) ++ List.replicate (2 - (lg_sl ([.ref (ad 0), .int x1])).length) Slot.unset).toArray = ls at hl ⊢
  have hl : lv_has ls 2 [(0, .ref (ad 0)), (1, .int x1)] := hl
  have key : ∀ n : Nat, (∀ (z0 : ST) (y1 : Int32) (H : Heap) (locs : List Loc) (ls : Array Slot), m_goOver_f n 0 z0 y1 = some R → va_P (dC, dI) q_cl (wM cI cZ ad z0) H → va_D A (wM cI cZ ad z0) → va_S A s.heap H locs → lv_has ls 2 [(0, .ref (ad 0)), (1, .int y1)] → qWv p l e w_SlippedStreamsModel_goOver 5 113 s m [.ref (ad 0), .int x1] below meth c (dC, dI) q_cl (wM cI cZ ad) A R H locs (F0 m 0 ls [])) ∧ True := by
    intro n
    induction n with
    | zero => exact ⟨fun z0 y1 H locs ls h hP hD hS hl => (by cases h), trivial⟩
    | succ n ih =>
      obtain ⟨jp_0, -⟩ := ih
      refine ⟨?_, trivial⟩
      · intro z0 y1 H locs ls h hP hD hS hl
        replace h : m_goOver_g0 (m_goOver_f n) z0 y1 = some R := h
        unfold m_goOver_g0 at h
        refine lv_aload_n hx hb d_SlippedStreamsModel_goOver_0 rfl (lv_at hl 0 rfl) ?_
        refine mg_0_places hx hb hts hin_SlippedStreamsModel hown hK hP (hts _ k_822) (fun _ h9 => h9) d_SlippedStreamsModel_goOver_1 ?_
        refine lv_iload_n hx hb d_SlippedStreamsModel_goOver_4 rfl (lv_at hl 1 rfl) ?_
        obtain ⟨hi, h⟩ := gin_e h
        refine ml_6 hx hb hK hP hi d_SlippedStreamsModel_goOver_5 ?_
        refine lv_aload_n hx hb d_SlippedStreamsModel_goOver_6 rfl (lv_at hl 0 rfl) ?_
        refine mg_0_count hx hb hts hin_SlippedStreamsModel hown hK hP (hts _ k_813) (fun _ h9 => h9) d_SlippedStreamsModel_goOver_7 ?_
        refine lv_icmp_ge (tgt := 58) hx hb d_SlippedStreamsModel_goOver_10 (by decide) (fun hc => ?_) (fun hc => ?_)
        · replace h := if_t hc h
          exact q_vret hx hb hr hlocks h hP hD hS d_SlippedStreamsModel_goOver_58
        · replace h := if_f hc h
          refine lv_aload_n hx hb d_SlippedStreamsModel_goOver_13 rfl (lv_at hl 0 rfl) ?_
          refine lv_iload_n hx hb d_SlippedStreamsModel_goOver_14 rfl (lv_at hl 1 rfl) ?_
          refine lv_aload_n hx hb d_SlippedStreamsModel_goOver_15 rfl (lv_at hl 0 rfl) ?_
          refine mg_0_places hx hb hts hin_SlippedStreamsModel hown hK hP (hts _ k_822) (fun _ h9 => h9) d_SlippedStreamsModel_goOver_16 ?_
          refine lv_iload_n hx hb d_SlippedStreamsModel_goOver_19 rfl (lv_at hl 1 rfl) ?_
          obtain ⟨hi, h⟩ := gin_e h
          refine ml_6 hx hb hK hP hi d_SlippedStreamsModel_goOver_20 ?_
          obtain ⟨r1, z1, hc1, h⟩ := obn_e h
          refine q_goi (va_runV (As := [.int y1, .int (z0.2 6 y1.toNatClampNeg)]) (rest := []) ⟨hx, hb, hml, hown, hts⟩ (c_m_isNothing l dC dI cI cZ ad z0 y1 (z0.2 6 y1.toNatClampNeg) _ hc1 _) (cwV 2 hts (q_goodL _ (q_l4 k_917 k_919 k_29 k_64) k_920) rfl rfl rfl (by decide +kernel) ⟨Nat.le_of_ble_eq_true rfl, Nat.le_of_ble_eq_true rfl⟩) (q_preV qok hKK hP hD (va_recv (ci := 9) (q0 := 0) hK hP rfl rfl)) rfl rfl hl.1 rfl (lv_room (Nat.le_of_ble_eq_true rfl)) d_SlippedStreamsModel_goOver_21 ⟨Nat.le_refl _, Nat.le_refl _⟩) hD hS hA (fun H locs hP hD hS => ?_)
          refine lv_if_eq (tgt := 58) hx hb d_SlippedStreamsModel_goOver_24 (by decide) (fun hc => ?_) (fun hc => ?_)
          · replace h := if_t hc h
            exact q_vret hx hb hr hlocks h hP hD hS d_SlippedStreamsModel_goOver_58
          · replace h := if_f hc h
            refine lv_aload_n hx hb d_SlippedStreamsModel_goOver_27 rfl (lv_at hl 0 rfl) ?_
            refine mg_0_places hx hb hts hin_SlippedStreamsModel hown hK hP (hts _ k_822) (fun _ h9 => h9) d_SlippedStreamsModel_goOver_28 ?_
            refine lv_iload_n hx hb d_SlippedStreamsModel_goOver_31 rfl (lv_at hl 1 rfl) ?_
            refine lv_aload_n hx hb d_SlippedStreamsModel_goOver_32 rfl (lv_at hl 0 rfl) ?_
            refine mg_0_places hx hb hts hin_SlippedStreamsModel hown hK hP (hts _ k_822) (fun _ h9 => h9) d_SlippedStreamsModel_goOver_33 ?_
            refine lv_iload_n hx hb d_SlippedStreamsModel_goOver_36 rfl (lv_at hl 1 rfl) ?_
            obtain ⟨hi, h⟩ := gin_e h
            refine ml_6 hx hb hK hP hi d_SlippedStreamsModel_goOver_37 ?_
            refine lv_iconst (v := 1) hx hb d_SlippedStreamsModel_goOver_38 (by decide) ?_
            refine lv_iadd hx hb d_SlippedStreamsModel_goOver_39 ?_
            obtain ⟨hi, h⟩ := gin_e h
            obtain ⟨z2, e2, h⟩ := bnd_e h
            refine ms_6 hx hb hK hP hD hS hi d_SlippedStreamsModel_goOver_40 e2 (fun H locs hP hD hS => ?_)
            refine lv_aload_n hx hb d_SlippedStreamsModel_goOver_41 rfl (lv_at hl 0 rfl) ?_
            refine mg_0_behind hx hb hts hin_SlippedStreamsModel hown hK hP (hts _ k_823) (fun _ h9 => h9) d_SlippedStreamsModel_goOver_42 ?_
            refine lv_iload_n hx hb d_SlippedStreamsModel_goOver_45 rfl (lv_at hl 1 rfl) ?_
            refine lv_aload_n hx hb d_SlippedStreamsModel_goOver_46 rfl (lv_at hl 0 rfl) ?_
            refine mg_0_behind hx hb hts hin_SlippedStreamsModel hown hK hP (hts _ k_823) (fun _ h9 => h9) d_SlippedStreamsModel_goOver_47 ?_
            refine lv_iload_n hx hb d_SlippedStreamsModel_goOver_50 rfl (lv_at hl 1 rfl) ?_
            obtain ⟨hi, h⟩ := gin_e h
            refine ml_7 hx hb hK hP hi d_SlippedStreamsModel_goOver_51 ?_
            refine lv_iconst (v := 1) hx hb d_SlippedStreamsModel_goOver_52 (by decide) ?_
            refine lv_iadd hx hb d_SlippedStreamsModel_goOver_53 ?_
            obtain ⟨hi, h⟩ := gin_e h
            obtain ⟨z3, e3, h⟩ := bnd_e h
            refine ms_7 hx hb hK hP hD hS hi d_SlippedStreamsModel_goOver_54 e3 (fun H locs hP hD hS => ?_)
            refine lv_goto (tgt := 0) hx hb d_SlippedStreamsModel_goOver_55 (by decide) ?_
            exact jp_0 z3 y1 _ _ _ h hP hD hS (lv_sub hl [0, 1] rfl)
  exact (key 4000).1 z0 x1 _ _ _ h hP hD hS (lv_sub hl [0, 1] rfl)
def m_reset_g0 (k : Nat → ST → Int32 → OR) (z0 : ST) (y1 : Int32) : OR := k 1 z0 0
def m_reset_g2 (k : Nat → ST → Int32 → OR) (z0 : ST) (y1 : Int32) : OR := if 16 ≤ y1 then (k 2 z0 0) else (gin y1 16 (bnd (stA z0 5 (upd (z0.2 5) y1.toNatClampNeg 0)) (fun z1 => gin (y1 - y1 / 8 * 8) 8 (bnd (stA z1 14 (upd (z1.2 14) (y1 - y1 / 8 * 8).toNatClampNeg 0)) (fun z2 => k 1 z2 (y1 + 1))))))
def m_reset_g33 (k : Nat → ST → Int32 → OR) (z0 : ST) (y1 : Int32) : OR := if 32 ≤ y1 then (k 3 z0 0) else (gin y1 32 (bnd (stA z0 8 (upd (z0.2 8) y1.toNatClampNeg ((z0.1 1) + (y1 * (z0.1 2))))) (fun z3 => gin y1 32 (bnd (stA z3 15 (upd (z3.2 15) y1.toNatClampNeg ((z3.1 1) + (y1 * (z3.1 2))))) (fun z4 => k 2 z4 (y1 + 1))))))
def m_reset_g81 (k : Nat → ST → Int32 → OR) (z0 : ST) (y1 : Int32) : OR := if 5 ≤ y1 then (bnd (stI z0 6 0) (fun z5 => gib 0 (bnd (stI z5 3 0) (fun z6 => bnd (stI z6 4 0) (fun z7 => bnd (stI z7 7 0) (fun z8 => bnd (stI z8 8 0) (fun z9 => bnd (stI z9 9 0) (fun z10 => k 4 z10 0)))))))) else (gin y1 5 (bnd (stA z0 10 (upd (z0.2 10) y1.toNatClampNeg 0)) (fun z11 => k 3 z11 (y1 + 1))))
def m_reset_g131 (k : Nat → ST → Int32 → OR) (z0 : ST) (y1 : Int32) : OR := if 2 ≤ y1 then (some (0, z0)) else (gin y1 2 (bnd (stA z0 6 (upd (z0.2 6) y1.toNatClampNeg 0)) (fun z12 => gin y1 2 (bnd (stA z12 7 (upd (z12.2 7) y1.toNatClampNeg 0)) (fun z13 => obn (m_goOver z13 y1) (fun r14 z14 => k 4 z14 (y1 + 1)))))))
def m_reset_g (k : Nat → ST → Int32 → OR) (n : Nat) : ST → Int32 → OR := match n with
  | 0 => m_reset_g0 k
  | 1 => m_reset_g2 k
  | 2 => m_reset_g33 k
  | 3 => m_reset_g81 k
  | 4 => m_reset_g131 k
  | _ => fun _ _ => none
def m_reset_f : Nat → Nat → ST → Int32 → OR
  | 0 => fun _ _ _ => none
  | n + 1 => m_reset_g (m_reset_f n)
def m_reset (z0 : ST) : OR := m_reset_f 4000 0 z0 0
set_option maxRecDepth 100000 in
set_option maxHeartbeats 4000000 in
theorem c_m_reset (l : Launch) (dC : Nat → ClassId) (dI : Nat → Nat → Nat) (cI cZ : ClassId) (ad : Nat → Nat) (z0 : ST) (R : Int32 × ST) (h : m_reset z0 = some R) : qMv l y_SlippedStreamsModel_reset w_SlippedStreamsModel_reset 6 134 (KX dC dI cI cZ) (dC, dI) q_cl (wM cI cZ ad) [.ref (ad 0)] z0 R := by
  intro sz
  refine Met.ofW (cc := b_SlippedStreamsModel_reset) (maxL := 2) (ret := none) (by decide) rfl ?_
  intro p e s m args below meth c s₁ B hml hv
  obtain ⟨rfl, hsz, hP, hKK, hD0⟩ := hv
  have hx := B.exec
  have hb := B.bytes
  have hr := B.returns
  have hts : ∀ w ∈ q_big, w.before _ s = true := fun w h => atoms_spec (ws := w_SlippedStreamsModel_reset) B.pre w (List.mem_cons_of_mem _ h)
  have hown : s.vm.findClass "SlippedStreamsModel" = some m.cls := findClass_of_methodNamed B.named
  have hlocks := B.notSynchronized
  subst hsz
  have hD := hD0.self (sz := s.heap.size)
  generalize hAe : va_A (wM cI cZ ad z0) s.heap.size = A at hD ⊢
  have hA : ∀ q : Nat, s.heap.size ≤ q → A q := fun q h => by rw [← hAe]; exact Or.inr h
  have hS : va_S A s.heap s.heap [] := va_S.rf
  have hK := hKK.1
  have hl := lv_entry ([.ref (ad 0)]) (n := 2) (Nat.le_of_ble_eq_true rfl)
  rw [lg_entry_eq]
  generalize (lg_sl ([.ref (ad 0)]) ++ List.replicate (2 - (lg_sl ([.ref (ad 0)])).length) Slot.unset).toArray = ls at hl ⊢
  have hl : lv_has ls 2 [(0, .ref (ad 0))] := hl
  have key : ∀ n : Nat, (∀ (z0 : ST) (y1 : Int32) (H : Heap) (locs : List Loc) (ls : Array Slot), m_reset_f n 0 z0 y1 = some R → va_P (dC, dI) q_cl (wM cI cZ ad z0) H → va_D A (wM cI cZ ad z0) → va_S A s.heap H locs → lv_has ls 2 [(0, .ref (ad 0))] → qWv p l e w_SlippedStreamsModel_reset 6 134 s m [.ref (ad 0)] below meth c (dC, dI) q_cl (wM cI cZ ad) A R H locs (F0 m 0 ls [])) ∧ (∀ (z0 : ST) (y1 : Int32) (H : Heap) (locs : List Loc) (ls : Array Slot), m_reset_f n 1 z0 y1 = some R → va_P (dC, dI) q_cl (wM cI cZ ad z0) H → va_D A (wM cI cZ ad z0) → va_S A s.heap H locs → lv_has ls 2 [(0, .ref (ad 0)), (1, .int y1)] → qWv p l e w_SlippedStreamsModel_reset 6 134 s m [.ref (ad 0)] below meth c (dC, dI) q_cl (wM cI cZ ad) A R H locs (F0 m 2 ls [])) ∧ (∀ (z0 : ST) (y1 : Int32) (H : Heap) (locs : List Loc) (ls : Array Slot), m_reset_f n 2 z0 y1 = some R → va_P (dC, dI) q_cl (wM cI cZ ad z0) H → va_D A (wM cI cZ ad z0) → va_S A s.heap H locs → lv_has ls 2 [(0, .ref (ad 0)), (1, .int y1)] → qWv p l e w_SlippedStreamsModel_reset 6 134 s m [.ref (ad 0)] below meth c (dC, dI) q_cl (wM cI cZ ad) A R H locs (F0 m 33 ls [])) ∧ (∀ (z0 : ST) (y1 : Int32) (H : Heap) (locs : List Loc) (ls : Array Slot), m_reset_f n 3 z0 y1 = some R → va_P (dC, dI) q_cl (wM cI cZ ad z0) H → va_D A (wM cI cZ ad z0) → va_S A s.heap H locs → lv_has ls 2 [(0, .ref (ad 0)), (1, .int y1)] → qWv p l e w_SlippedStreamsModel_reset 6 134 s m [.ref (ad 0)] below meth c (dC, dI) q_cl (wM cI cZ ad) A R H locs (F0 m 81 ls [])) ∧ (∀ (z0 : ST) (y1 : Int32) (H : Heap) (locs : List Loc) (ls : Array Slot), m_reset_f n 4 z0 y1 = some R → va_P (dC, dI) q_cl (wM cI cZ ad z0) H → va_D A (wM cI cZ ad z0) → va_S A s.heap H locs → lv_has ls 2 [(0, .ref (ad 0)), (1, .int y1)] → qWv p l e w_SlippedStreamsModel_reset 6 134 s m [.ref (ad 0)] below meth c (dC, dI) q_cl (wM cI cZ ad) A R H locs (F0 m 131 ls [])) := by
    intro n
    induction n with
    | zero => exact ⟨fun z0 y1 H locs ls h hP hD hS hl => (by cases h), fun z0 y1 H locs ls h hP hD hS hl => (by cases h), fun z0 y1 H locs ls h hP hD hS hl => (by cases h), fun z0 y1 H locs ls h hP hD hS hl => (by cases h), fun z0 y1 H locs ls h hP hD hS hl => (by cases h)⟩
    | succ n ih =>
      obtain ⟨jp_0, jp_2, jp_33, jp_81, jp_131⟩ := ih
      refine ⟨?_, ?_, ?_, ?_, ?_⟩
      · intro z0 y1 H locs ls h hP hD hS hl
        replace h : m_reset_g0 (m_reset_f n) z0 y1 = some R := h
        unfold m_reset_g0 at h
        refine lv_iconst (v := 0) hx hb d_SlippedStreamsModel_reset_0 (by decide) ?_
        refine lv_istore_n (lv' := [(1, .int 0), (0, .ref (ad 0))]) hx hb d_SlippedStreamsModel_reset_1 rfl hl (by decide) rfl (fun ls hl => ?_)
        exact jp_2 z0 0 _ _ _ h hP hD hS (lv_sub hl [1, 0] rfl)
      · intro z0 y1 H locs ls h hP hD hS hl
        replace h : m_reset_g2 (m_reset_f n) z0 y1 = some R := h
        unfold m_reset_g2 at h
        refine lv_iload_n hx hb d_SlippedStreamsModel_reset_2 rfl (lv_at hl 1 rfl) ?_
        refine lv_bipush (v := 16) hx hb d_SlippedStreamsModel_reset_3 (by decide) ?_
        refine lv_icmp_ge (tgt := 31) hx hb d_SlippedStreamsModel_reset_5 (by decide) (fun hc => ?_) (fun hc => ?_)
        · replace h := if_t hc h
          refine lv_iconst (v := 0) hx hb d_SlippedStreamsModel_reset_31 (by decide) ?_
          refine lv_istore_n (lv' := [(1, .int 0), (0, .ref (ad 0))]) hx hb d_SlippedStreamsModel_reset_32 rfl hl (by decide) rfl (fun ls hl => ?_)
          exact jp_33 z0 0 _ _ _ h hP hD hS (lv_sub hl [1, 0] rfl)
        · replace h := if_f hc h
          refine lv_aload_n hx hb d_SlippedStreamsModel_reset_8 rfl (lv_at hl 0 rfl) ?_
          refine mg_0_registers hx hb hts hin_SlippedStreamsModel hown hK hP (hts _ k_821) (fun _ h9 => h9) d_SlippedStreamsModel_reset_9 ?_
          refine lv_iload_n hx hb d_SlippedStreamsModel_reset_12 rfl (lv_at hl 1 rfl) ?_
          refine lv_iconst (v := 0) hx hb d_SlippedStreamsModel_reset_13 (by decide) ?_
          obtain ⟨hi, h⟩ := gin_e h
          obtain ⟨z1, e1, h⟩ := bnd_e h
          refine ms_5 hx hb hK hP hD hS hi d_SlippedStreamsModel_reset_14 e1 (fun H locs hP hD hS => ?_)
          refine lv_aload_n hx hb d_SlippedStreamsModel_reset_15 rfl (lv_at hl 0 rfl) ?_
          refine mg_0_plainRegisters hx hb hts hin_SlippedStreamsModel hown hK hP (hts _ k_834) (fun _ h9 => h9) d_SlippedStreamsModel_reset_16 ?_
          refine lv_iload_n hx hb d_SlippedStreamsModel_reset_19 rfl (lv_at hl 1 rfl) ?_
          refine lv_bipush (v := 8) hx hb d_SlippedStreamsModel_reset_20 (by decide) ?_
          refine lv_irem hx hb d_SlippedStreamsModel_reset_22 (by decide) ?_
          refine lv_iconst (v := 0) hx hb d_SlippedStreamsModel_reset_23 (by decide) ?_
          obtain ⟨hi, h⟩ := gin_e h
          obtain ⟨z2, e2, h⟩ := bnd_e h
          refine ms_14 hx hb hK hP hD hS hi d_SlippedStreamsModel_reset_24 e2 (fun H locs hP hD hS => ?_)
          refine lv_iinc (k := 1) (v := y1 + 1) (lv' := [(1, .int (y1 + 1)), (0, .ref (ad 0))]) hx hb d_SlippedStreamsModel_reset_25 hl rfl rfl (by decide) rfl (fun ls hl => ?_)
          refine lv_goto (tgt := 2) hx hb d_SlippedStreamsModel_reset_28 (by decide) ?_
          exact jp_2 z2 (y1 + 1) _ _ _ h hP hD hS (lv_sub hl [1, 0] rfl)
      · intro z0 y1 H locs ls h hP hD hS hl
        replace h : m_reset_g33 (m_reset_f n) z0 y1 = some R := h
        unfold m_reset_g33 at h
        refine lv_iload_n hx hb d_SlippedStreamsModel_reset_33 rfl (lv_at hl 1 rfl) ?_
        refine lv_bipush (v := 32) hx hb d_SlippedStreamsModel_reset_34 (by decide) ?_
        refine lv_icmp_ge (tgt := 79) hx hb d_SlippedStreamsModel_reset_36 (by decide) (fun hc => ?_) (fun hc => ?_)
        · replace h := if_t hc h
          refine lv_iconst (v := 0) hx hb d_SlippedStreamsModel_reset_79 (by decide) ?_
          refine lv_istore_n (lv' := [(1, .int 0), (0, .ref (ad 0))]) hx hb d_SlippedStreamsModel_reset_80 rfl hl (by decide) rfl (fun ls hl => ?_)
          exact jp_81 z0 0 _ _ _ h hP hD hS (lv_sub hl [1, 0] rfl)
        · replace h := if_f hc h
          refine lv_aload_n hx hb d_SlippedStreamsModel_reset_39 rfl (lv_at hl 0 rfl) ?_
          refine mg_0_memory hx hb hts hin_SlippedStreamsModel hown hK hP (hts _ k_825) (fun _ h9 => h9) d_SlippedStreamsModel_reset_40 ?_
          refine lv_iload_n hx hb d_SlippedStreamsModel_reset_43 rfl (lv_at hl 1 rfl) ?_
          refine lv_aload_n hx hb d_SlippedStreamsModel_reset_44 rfl (lv_at hl 0 rfl) ?_
          refine mg_0_first hx hb hts hin_SlippedStreamsModel hown hK hP (hts _ k_818) (fun _ h9 => h9) d_SlippedStreamsModel_reset_45 ?_
          refine lv_iload_n hx hb d_SlippedStreamsModel_reset_48 rfl (lv_at hl 1 rfl) ?_
          refine lv_aload_n hx hb d_SlippedStreamsModel_reset_49 rfl (lv_at hl 0 rfl) ?_
          refine mg_0_step hx hb hts hin_SlippedStreamsModel hown hK hP (hts _ k_819) (fun _ h9 => h9) d_SlippedStreamsModel_reset_50 ?_
          refine lv_imul hx hb d_SlippedStreamsModel_reset_53 ?_
          refine lv_iadd hx hb d_SlippedStreamsModel_reset_54 ?_
          obtain ⟨hi, h⟩ := gin_e h
          obtain ⟨z3, e3, h⟩ := bnd_e h
          refine ms_8 hx hb hK hP hD hS hi d_SlippedStreamsModel_reset_55 e3 (fun H locs hP hD hS => ?_)
          refine lv_aload_n hx hb d_SlippedStreamsModel_reset_56 rfl (lv_at hl 0 rfl) ?_
          refine mg_0_plainMemory hx hb hts hin_SlippedStreamsModel hown hK hP (hts _ k_835) (fun _ h9 => h9) d_SlippedStreamsModel_reset_57 ?_
          refine lv_iload_n hx hb d_SlippedStreamsModel_reset_60 rfl (lv_at hl 1 rfl) ?_
          refine lv_aload_n hx hb d_SlippedStreamsModel_reset_61 rfl (lv_at hl 0 rfl) ?_
          refine mg_0_first hx hb hts hin_SlippedStreamsModel hown hK hP (hts _ k_818) (fun _ h9 => h9) d_SlippedStreamsModel_reset_62 ?_
          refine lv_iload_n hx hb d_SlippedStreamsModel_reset_65 rfl (lv_at hl 1 rfl) ?_
          refine lv_aload_n hx hb d_SlippedStreamsModel_reset_66 rfl (lv_at hl 0 rfl) ?_
          refine mg_0_step hx hb hts hin_SlippedStreamsModel hown hK hP (hts _ k_819) (fun _ h9 => h9) d_SlippedStreamsModel_reset_67 ?_
          refine lv_imul hx hb d_SlippedStreamsModel_reset_70 ?_
          refine lv_iadd hx hb d_SlippedStreamsModel_reset_71 ?_
          obtain ⟨hi, h⟩ := gin_e h
          obtain ⟨z4, e4, h⟩ := bnd_e h
          refine ms_15 hx hb hK hP hD hS hi d_SlippedStreamsModel_reset_72 e4 (fun H locs hP hD hS => ?_)
          refine lv_iinc (k := 1) (v := y1 + 1) (lv' := [(1, .int (y1 + 1)), (0, .ref (ad 0))]) hx hb d_SlippedStreamsModel_reset_73 hl rfl rfl (by decide) rfl (fun ls hl => ?_)
          refine lv_goto (tgt := 33) hx hb d_SlippedStreamsModel_reset_76 (by decide) ?_
          exact jp_33 z4 (y1 + 1) _ _ _ h hP hD hS (lv_sub hl [1, 0] rfl)
      · intro z0 y1 H locs ls h hP hD hS hl
        replace h : m_reset_g81 (m_reset_f n) z0 y1 = some R := h
        unfold m_reset_g81 at h
        refine lv_iload_n hx hb d_SlippedStreamsModel_reset_81 rfl (lv_at hl 1 rfl) ?_
        refine lv_iconst (v := 5) hx hb d_SlippedStreamsModel_reset_82 (by decide) ?_
        refine lv_icmp_ge (tgt := 99) hx hb d_SlippedStreamsModel_reset_83 (by decide) (fun hc => ?_) (fun hc => ?_)
        · replace h := if_t hc h
          refine lv_aload_n hx hb d_SlippedStreamsModel_reset_99 rfl (lv_at hl 0 rfl) ?_
          refine lv_iconst (v := 0) hx hb d_SlippedStreamsModel_reset_100 (by decide) ?_
          obtain ⟨z5, e5, h⟩ := bnd_e h
          refine mp_0_stores hx hb hts hin_SlippedStreamsModel hown hK hP hD hS (hts _ k_830) (fun _ h9 => h9) d_SlippedStreamsModel_reset_101 e5 (fun H locs hP hD hS => ?_)
          refine lv_aload_n hx hb d_SlippedStreamsModel_reset_104 rfl (lv_at hl 0 rfl) ?_
          refine lv_iconst (v := 0) hx hb d_SlippedStreamsModel_reset_105 (by decide) ?_
          obtain ⟨hv, h⟩ := gib_e h
          obtain ⟨z6, e6, h⟩ := bnd_e h
          refine mp_0_sent hx hb hts hin_SlippedStreamsModel hown hK hP hD hS (hts _ k_824) (fun _ h9 => h9) hv d_SlippedStreamsModel_reset_106 e6 (fun H locs hP hD hS => ?_)
          refine lv_aload_n hx hb d_SlippedStreamsModel_reset_109 rfl (lv_at hl 0 rfl) ?_
          refine lv_iconst (v := 0) hx hb d_SlippedStreamsModel_reset_110 (by decide) ?_
          obtain ⟨z7, e7, h⟩ := bnd_e h
          refine mp_0_lost hx hb hts hin_SlippedStreamsModel hown hK hP hD hS (hts _ k_826) (fun _ h9 => h9) d_SlippedStreamsModel_reset_111 e7 (fun H locs hP hD hS => ?_)
          refine lv_aload_n hx hb d_SlippedStreamsModel_reset_114 rfl (lv_at hl 0 rfl) ?_
          refine lv_iconst (v := 0) hx hb d_SlippedStreamsModel_reset_115 (by decide) ?_
          obtain ⟨z8, e8, h⟩ := bnd_e h
          refine mp_0_plainPlace hx hb hts hin_SlippedStreamsModel hown hK hP hD hS (hts _ k_836) (fun _ h9 => h9) d_SlippedStreamsModel_reset_116 e8 (fun H locs hP hD hS => ?_)
          refine lv_aload_n hx hb d_SlippedStreamsModel_reset_119 rfl (lv_at hl 0 rfl) ?_
          refine lv_iconst (v := 0) hx hb d_SlippedStreamsModel_reset_120 (by decide) ?_
          obtain ⟨z9, e9, h⟩ := bnd_e h
          refine mp_0_streamOutputs hx hb hts hin_SlippedStreamsModel hown hK hP hD hS (hts _ k_838) (fun _ h9 => h9) d_SlippedStreamsModel_reset_121 e9 (fun H locs hP hD hS => ?_)
          refine lv_aload_n hx hb d_SlippedStreamsModel_reset_124 rfl (lv_at hl 0 rfl) ?_
          refine lv_iconst (v := 0) hx hb d_SlippedStreamsModel_reset_125 (by decide) ?_
          obtain ⟨z10, e10, h⟩ := bnd_e h
          refine mp_0_plainOutputs hx hb hts hin_SlippedStreamsModel hown hK hP hD hS (hts _ k_839) (fun _ h9 => h9) d_SlippedStreamsModel_reset_126 e10 (fun H locs hP hD hS => ?_)
          refine lv_iconst (v := 0) hx hb d_SlippedStreamsModel_reset_129 (by decide) ?_
          refine lv_istore_n (lv' := [(1, .int 0), (0, .ref (ad 0))]) hx hb d_SlippedStreamsModel_reset_130 rfl hl (by decide) rfl (fun ls hl => ?_)
          exact jp_131 z10 0 _ _ _ h hP hD hS (lv_sub hl [1, 0] rfl)
        · replace h := if_f hc h
          refine lv_aload_n hx hb d_SlippedStreamsModel_reset_86 rfl (lv_at hl 0 rfl) ?_
          refine mg_0_lengths hx hb hts hin_SlippedStreamsModel hown hK hP (hts _ k_829) (fun _ h9 => h9) d_SlippedStreamsModel_reset_87 ?_
          refine lv_iload_n hx hb d_SlippedStreamsModel_reset_90 rfl (lv_at hl 1 rfl) ?_
          refine lv_iconst (v := 0) hx hb d_SlippedStreamsModel_reset_91 (by decide) ?_
          obtain ⟨hi, h⟩ := gin_e h
          obtain ⟨z11, e11, h⟩ := bnd_e h
          refine ms_10 hx hb hK hP hD hS hi d_SlippedStreamsModel_reset_92 e11 (fun H locs hP hD hS => ?_)
          refine lv_iinc (k := 1) (v := y1 + 1) (lv' := [(1, .int (y1 + 1)), (0, .ref (ad 0))]) hx hb d_SlippedStreamsModel_reset_93 hl rfl rfl (by decide) rfl (fun ls hl => ?_)
          refine lv_goto (tgt := 81) hx hb d_SlippedStreamsModel_reset_96 (by decide) ?_
          exact jp_81 z11 (y1 + 1) _ _ _ h hP hD hS (lv_sub hl [1, 0] rfl)
      · intro z0 y1 H locs ls h hP hD hS hl
        replace h : m_reset_g131 (m_reset_f n) z0 y1 = some R := h
        unfold m_reset_g131 at h
        refine lv_iload_n hx hb d_SlippedStreamsModel_reset_131 rfl (lv_at hl 1 rfl) ?_
        refine lv_iconst (v := 2) hx hb d_SlippedStreamsModel_reset_132 (by decide) ?_
        refine lv_icmp_ge (tgt := 161) hx hb d_SlippedStreamsModel_reset_133 (by decide) (fun hc => ?_) (fun hc => ?_)
        · replace h := if_t hc h
          exact q_vret hx hb hr hlocks h hP hD hS d_SlippedStreamsModel_reset_161
        · replace h := if_f hc h
          refine lv_aload_n hx hb d_SlippedStreamsModel_reset_136 rfl (lv_at hl 0 rfl) ?_
          refine mg_0_places hx hb hts hin_SlippedStreamsModel hown hK hP (hts _ k_822) (fun _ h9 => h9) d_SlippedStreamsModel_reset_137 ?_
          refine lv_iload_n hx hb d_SlippedStreamsModel_reset_140 rfl (lv_at hl 1 rfl) ?_
          refine lv_iconst (v := 0) hx hb d_SlippedStreamsModel_reset_141 (by decide) ?_
          obtain ⟨hi, h⟩ := gin_e h
          obtain ⟨z12, e12, h⟩ := bnd_e h
          refine ms_6 hx hb hK hP hD hS hi d_SlippedStreamsModel_reset_142 e12 (fun H locs hP hD hS => ?_)
          refine lv_aload_n hx hb d_SlippedStreamsModel_reset_143 rfl (lv_at hl 0 rfl) ?_
          refine mg_0_behind hx hb hts hin_SlippedStreamsModel hown hK hP (hts _ k_823) (fun _ h9 => h9) d_SlippedStreamsModel_reset_144 ?_
          refine lv_iload_n hx hb d_SlippedStreamsModel_reset_147 rfl (lv_at hl 1 rfl) ?_
          refine lv_iconst (v := 0) hx hb d_SlippedStreamsModel_reset_148 (by decide) ?_
          obtain ⟨hi, h⟩ := gin_e h
          obtain ⟨z13, e13, h⟩ := bnd_e h
          refine ms_7 hx hb hK hP hD hS hi d_SlippedStreamsModel_reset_149 e13 (fun H locs hP hD hS => ?_)
          refine lv_aload_n hx hb d_SlippedStreamsModel_reset_150 rfl (lv_at hl 0 rfl) ?_
          refine lv_iload_n hx hb d_SlippedStreamsModel_reset_151 rfl (lv_at hl 1 rfl) ?_
          obtain ⟨r14, z14, hc14, h⟩ := obn_e h
          refine q_gov (va_runV (As := [.int y1]) (rest := []) ⟨hx, hb, hml, hown, hts⟩ (c_m_goOver l dC dI cI cZ ad z13 y1 _ hc14 _) (cwV 1 hts (q_goodL _ (q_l4 k_913 k_915 k_28 k_64) k_916) rfl rfl rfl (by decide +kernel) ⟨Nat.le_of_ble_eq_true rfl, Nat.le_of_ble_eq_true rfl⟩) (q_preV qok hKK hP hD (va_recv (ci := 9) (q0 := 0) hK hP rfl rfl)) rfl rfl hl.1 rfl (lv_room (Nat.le_of_ble_eq_true rfl)) d_SlippedStreamsModel_reset_152 ⟨Nat.le_refl _, Nat.le_refl _⟩) hD hS hA (fun H locs hP hD hS => ?_)
          refine lv_iinc (k := 1) (v := y1 + 1) (lv' := [(1, .int (y1 + 1)), (0, .ref (ad 0))]) hx hb d_SlippedStreamsModel_reset_155 hl rfl rfl (by decide) rfl (fun ls hl => ?_)
          refine lv_goto (tgt := 131) hx hb d_SlippedStreamsModel_reset_158 (by decide) ?_
          exact jp_131 z14 (y1 + 1) _ _ _ h hP hD hS (lv_sub hl [1, 0] rfl)
  exact (key 4000).1 z0 0 _ _ _ h hP hD hS (lv_sub hl [0] rfl)
def m_isRegister (z0 : ST) (x1 : Int32) : OR := if x1 < 0 then (gib 0 (some (0, z0))) else (if 8 ≤ x1 then (gib 0 (some (0, z0))) else (gib 1 (some (1, z0))))
set_option maxRecDepth 100000 in
set_option maxHeartbeats 4000000 in
theorem c_m_isRegister (l : Launch) (dC : Nat → ClassId) (dI : Nat → Nat → Nat) (cI cZ : ClassId) (ad : Nat → Nat) (z0 : ST) (x1 : Int32) (R : Int32 × ST) (h : m_isRegister z0 x1 = some R) : qMi l y_SlippedStreamsModel_isRegister w_SlippedStreamsModel_isRegister 0 0 (KX dC dI cI cZ) (dC, dI) q_cl (wM cI cZ ad) [.int x1] z0 R := by
  intro sz
  refine Met.ofW (cc := b_SlippedStreamsModel_isRegister) (maxL := 1) (ret := (some .boolean)) (by decide) rfl ?_
  intro p e s m args below meth c s₁ B hml hv
  obtain ⟨rfl, hsz, hP, hKK, hD0⟩ := hv
  have hx := B.exec
  have hb := B.bytes
  have hr := B.returns
  have hts : ∀ w ∈ q_big, w.before _ s = true := fun w h => atoms_spec (ws := w_SlippedStreamsModel_isRegister) B.pre w (List.mem_cons_of_mem _ h)
  have hown : s.vm.findClass "SlippedStreamsModel" = some m.cls := findClass_of_methodNamed B.named
  have hlocks := B.notSynchronized
  subst hsz
  have hD := hD0.self (sz := s.heap.size)
  generalize hAe : va_A (wM cI cZ ad z0) s.heap.size = A at hD ⊢
  have hA : ∀ q : Nat, s.heap.size ≤ q → A q := fun q h => by rw [← hAe]; exact Or.inr h
  have hS : va_S A s.heap s.heap [] := va_S.rf
  have hK := hKK.1
  have hl := lv_entry ([.int x1]) (n := 1) (Nat.le_of_ble_eq_true rfl)
  rw [lg_entry_eq]
  generalize (lg_sl ([.int x1]) ++ List.replicate (1 - (lg_sl ([.int x1])).length) Slot.unset).toArray = ls at hl ⊢
  have hl : lv_has ls 1 [(0, .int x1)] := hl
  unfold m_isRegister at h
  refine lv_iload_n hx hb d_SlippedStreamsModel_isRegister_0 rfl (lv_at hl 0 rfl) ?_
  refine lv_if_lt (tgt := 14) hx hb d_SlippedStreamsModel_isRegister_1 (by decide) (fun hc => ?_) (fun hc => ?_)
  · replace h := if_t hc h
    refine lv_iconst (v := 0) hx hb d_SlippedStreamsModel_isRegister_14 (by decide) ?_
    exact q_zret hx hb hr hlocks h hP hD hS d_SlippedStreamsModel_isRegister_15
  · replace h := if_f hc h
    refine lv_iload_n hx hb d_SlippedStreamsModel_isRegister_4 rfl (lv_at hl 0 rfl) ?_
    refine lv_bipush (v := 8) hx hb d_SlippedStreamsModel_isRegister_5 (by decide) ?_
    refine lv_icmp_ge (tgt := 14) hx hb d_SlippedStreamsModel_isRegister_7 (by decide) (fun hc => ?_) (fun hc => ?_)
    · replace h := if_t hc h
      refine lv_iconst (v := 0) hx hb d_SlippedStreamsModel_isRegister_14 (by decide) ?_
      exact q_zret hx hb hr hlocks h hP hD hS d_SlippedStreamsModel_isRegister_15
    · replace h := if_f hc h
      refine lv_iconst (v := 1) hx hb d_SlippedStreamsModel_isRegister_10 (by decide) ?_
      refine lv_goto (tgt := 15) hx hb d_SlippedStreamsModel_isRegister_11 (by decide) ?_
      exact q_zret hx hb hr hlocks h hP hD hS d_SlippedStreamsModel_isRegister_15
def m_add_114 (z0 : ST) (y1 y2 y3 y4 y5 y6 : Int32) : OR := if y6 = 0 then (some ((-1), z0)) else (gin (z0.1 0) 24 (bnd (stA z0 0 (upd (z0.2 0) (z0.1 0).toNatClampNeg y1)) (fun z1 => gin (z1.1 0) 24 (bnd (stA z1 1 (upd (z1.2 1) (z1.1 0).toNatClampNeg y2)) (fun z2 => gin (z2.1 0) 24 (bnd (stA z2 2 (upd (z2.2 2) (z2.1 0).toNatClampNeg y3)) (fun z3 => gin (z3.1 0) 24 (bnd (stA z3 3 (upd (z3.2 3) (z3.1 0).toNatClampNeg y4)) (fun z4 => bnd (stI z4 0 ((z4.1 0) + 1)) (fun z5 => obn (m_slice z5) (fun r6 z6 => obn (m_reset z6) (fun r7 z7 => some ((z7.1 0) - 1, z7)))))))))))))
def m_add_113 (z0 : ST) (y1 y2 y3 y4 y5 : Int32) : OR := m_add_114 z0 y1 y2 y3 y4 y5 0
def m_add_109 (z0 : ST) (y1 y2 y3 y4 y5 : Int32) : OR := m_add_114 z0 y1 y2 y3 y4 y5 1
def m_add_97 (z0 : ST) (y1 y2 y3 y4 y5 : Int32) : OR := if y4 < 0 then (m_add_113 z0 y1 y2 y3 y4 y5) else (if 24 < y4 then (m_add_113 z0 y1 y2 y3 y4 y5) else (m_add_109 z0 y1 y2 y3 y4 y5))
def m_add_85 (z0 : ST) (y1 y2 y3 y4 y5 : Int32) : OR := if y1 = 6 then (m_add_97 z0 y1 y2 y3 y4 y5) else (if y1 = 7 then (m_add_97 z0 y1 y2 y3 y4 y5) else (m_add_109 z0 y1 y2 y3 y4 y5))
def m_add_60 (z0 : ST) (y1 y2 y3 y4 y5 y6 : Int32) : OR := if y6 = 0 then (m_add_113 z0 y1 y2 y3 y4 y6) else (if y1 < 1 then (m_add_85 z0 y1 y2 y3 y4 y6) else (if 3 < y1 then (m_add_85 z0 y1 y2 y3 y4 y6) else (obn (m_isRegister z0 y4) (fun r8 z8 => if r8 = 0 then (m_add_113 z8 y1 y2 y3 y4 y6) else (m_add_85 z8 y1 y2 y3 y4 y6)))))
def m_add_59 (z0 : ST) (y1 y2 y3 y4 y5 : Int32) : OR := m_add_60 z0 y1 y2 y3 y4 y5 0
def m_add_55 (z0 : ST) (y1 y2 y3 y4 y5 : Int32) : OR := m_add_60 z0 y1 y2 y3 y4 y5 1
def m_add_31 (z0 : ST) (y1 y2 y3 y4 y5 : Int32) : OR := if y5 = 0 then (m_add_59 z0 y1 y2 y3 y4 y5) else (if y1 = 0 then (m_add_55 z0 y1 y2 y3 y4 y5) else (if y1 = 8 then (m_add_55 z0 y1 y2 y3 y4 y5) else (obn (m_isRegister z0 y3) (fun r9 z9 => if r9 = 0 then (m_add_59 z9 y1 y2 y3 y4 y5) else (m_add_55 z9 y1 y2 y3 y4 y5)))))
def m_add_30 (z0 : ST) (y1 y2 y3 y4 : Int32) : OR := m_add_31 z0 y1 y2 y3 y4 0
def m_add (z0 : ST) (x1 x2 x3 x4 : Int32) : OR := if 24 ≤ (z0.1 0) then (m_add_30 z0 x1 x2 x3 x4) else (if x1 < 0 then (m_add_30 z0 x1 x2 x3 x4) else (if 9 ≤ x1 then (m_add_30 z0 x1 x2 x3 x4) else (obn (m_isRegister z0 x2) (fun r10 z10 => if r10 = 0 then (m_add_30 z10 x1 x2 x3 x4) else (m_add_31 z10 x1 x2 x3 x4 1)))))
set_option maxRecDepth 100000 in
set_option maxHeartbeats 4000000 in
theorem c_m_add (l : Launch) (dC : Nat → ClassId) (dI : Nat → Nat → Nat) (cI cZ : ClassId) (ad : Nat → Nat) (z0 : ST) (x1 x2 x3 x4 : Int32) (R : Int32 × ST) (h : m_add z0 x1 x2 x3 x4 = some R) : qMi l y_SlippedStreamsModel_add w_SlippedStreamsModel_add 7 155 (KX dC dI cI cZ) (dC, dI) q_cl (wM cI cZ ad) [.ref (ad 0), .int x1, .int x2, .int x3, .int x4] z0 R := by
  intro sz
  refine Met.ofW (cc := b_SlippedStreamsModel_add) (maxL := 6) (ret := (some .int)) (by decide) rfl ?_
  intro p e s m args below meth c s₁ B hml hv
  obtain ⟨rfl, hsz, hP, hKK, hD0⟩ := hv
  have hx := B.exec
  have hb := B.bytes
  have hr := B.returns
  have hts : ∀ w ∈ q_big, w.before _ s = true := fun w h => atoms_spec (ws := w_SlippedStreamsModel_add) B.pre w (List.mem_cons_of_mem _ h)
  have hown : s.vm.findClass "SlippedStreamsModel" = some m.cls := findClass_of_methodNamed B.named
  have hlocks := B.notSynchronized
  subst hsz
  have hD := hD0.self (sz := s.heap.size)
  generalize hAe : va_A (wM cI cZ ad z0) s.heap.size = A at hD ⊢
  have hA : ∀ q : Nat, s.heap.size ≤ q → A q := fun q h => by rw [← hAe]; exact Or.inr h
  have hS : va_S A s.heap s.heap [] := va_S.rf
  have hK := hKK.1
  have hl := lv_entry ([.ref (ad 0), .int x1, .int x2, .int x3, .int x4]) (n := 6) (Nat.le_of_ble_eq_true rfl)
  rw [lg_entry_eq]
  generalize (lg_sl ([.ref (ad 0), .int x1, .int x2, .int x3, .int x4]) ++ List.replicate (6 - (lg_sl ([.ref (ad 0), .int x1, .int x2, .int x3, .int x4])).length) Slot.unset).toArray = ls at hl ⊢
  have hl : lv_has ls 6 [(0, .ref (ad 0)), (1, .int x1), (2, .int x2), (3, .int x3), (4, .int x4)] := hl
  have jp_114 : ∀ (z0 : ST) (y1 y2 y3 y4 y5 y6 : Int32) (H : Heap) (locs : List Loc) (ls : Array Slot), m_add_114 z0 y1 y2 y3 y4 y5 y6 = some R → va_P (dC, dI) q_cl (wM cI cZ ad z0) H → va_D A (wM cI cZ ad z0) → va_S A s.heap H locs → lv_has ls 6 [(0, .ref (ad 0)), (1, .int y1), (2, .int y2), (3, .int y3), (4, .int y4), (5, .int y5)] → qWi p l e w_SlippedStreamsModel_add 7 155 s m [.ref (ad 0), .int x1, .int x2, .int x3, .int x4] below meth c (dC, dI) q_cl (wM cI cZ ad) A R H locs (F0 m 114 ls [.int y6]) := by
    intro z0 y1 y2 y3 y4 y5 y6 H locs ls h hP hD hS hl
    unfold m_add_114 at h
    refine lv_istore (lv' := [(5, .int y6), (0, .ref (ad 0)), (1, .int y1), (2, .int y2), (3, .int y3), (4, .int y4)]) hx hb d_SlippedStreamsModel_add_114 hl (by decide) rfl (fun ls hl => ?_)
    refine lv_iload hx hb d_SlippedStreamsModel_add_116 (lv_at hl 0 rfl) ?_
    refine lv_if_ne (tgt := 123) hx hb d_SlippedStreamsModel_add_118 (by decide) (fun hc => ?_) (fun hc => ?_)
    · replace h := if_f hc h
      refine lv_aload_n hx hb d_SlippedStreamsModel_add_123 rfl (lv_at hl 1 rfl) ?_
      refine mg_0_kinds hx hb hts hin_SlippedStreamsModel hown hK hP (hts _ k_814) (fun _ h9 => h9) d_SlippedStreamsModel_add_124 ?_
      refine lv_aload_n hx hb d_SlippedStreamsModel_add_127 rfl (lv_at hl 1 rfl) ?_
      refine mg_0_count hx hb hts hin_SlippedStreamsModel hown hK hP (hts _ k_813) (fun _ h9 => h9) d_SlippedStreamsModel_add_128 ?_
      refine lv_iload_n hx hb d_SlippedStreamsModel_add_131 rfl (lv_at hl 2 rfl) ?_
      obtain ⟨hi, h⟩ := gin_e h
      obtain ⟨z1, e1, h⟩ := bnd_e h
      refine ms_0 hx hb hK hP hD hS hi d_SlippedStreamsModel_add_132 e1 (fun H locs hP hD hS => ?_)
      refine lv_aload_n hx hb d_SlippedStreamsModel_add_133 rfl (lv_at hl 1 rfl) ?_
      refine mg_0_as hx hb hts hin_SlippedStreamsModel hown hK hP (hts _ k_815) (fun _ h9 => h9) d_SlippedStreamsModel_add_134 ?_
      refine lv_aload_n hx hb d_SlippedStreamsModel_add_137 rfl (lv_at hl 1 rfl) ?_
      refine mg_0_count hx hb hts hin_SlippedStreamsModel hown hK hP (hts _ k_813) (fun _ h9 => h9) d_SlippedStreamsModel_add_138 ?_
      refine lv_iload_n hx hb d_SlippedStreamsModel_add_141 rfl (lv_at hl 3 rfl) ?_
      obtain ⟨hi, h⟩ := gin_e h
      obtain ⟨z2, e2, h⟩ := bnd_e h
      refine ms_1 hx hb hK hP hD hS hi d_SlippedStreamsModel_add_142 e2 (fun H locs hP hD hS => ?_)
      refine lv_aload_n hx hb d_SlippedStreamsModel_add_143 rfl (lv_at hl 1 rfl) ?_
      refine mg_0_bs hx hb hts hin_SlippedStreamsModel hown hK hP (hts _ k_816) (fun _ h9 => h9) d_SlippedStreamsModel_add_144 ?_
      refine lv_aload_n hx hb d_SlippedStreamsModel_add_147 rfl (lv_at hl 1 rfl) ?_
      refine mg_0_count hx hb hts hin_SlippedStreamsModel hown hK hP (hts _ k_813) (fun _ h9 => h9) d_SlippedStreamsModel_add_148 ?_
      refine lv_iload_n hx hb d_SlippedStreamsModel_add_151 rfl (lv_at hl 4 rfl) ?_
      obtain ⟨hi, h⟩ := gin_e h
      obtain ⟨z3, e3, h⟩ := bnd_e h
      refine ms_2 hx hb hK hP hD hS hi d_SlippedStreamsModel_add_152 e3 (fun H locs hP hD hS => ?_)
      refine lv_aload_n hx hb d_SlippedStreamsModel_add_153 rfl (lv_at hl 1 rfl) ?_
      refine mg_0_cs hx hb hts hin_SlippedStreamsModel hown hK hP (hts _ k_817) (fun _ h9 => h9) d_SlippedStreamsModel_add_154 ?_
      refine lv_aload_n hx hb d_SlippedStreamsModel_add_157 rfl (lv_at hl 1 rfl) ?_
      refine mg_0_count hx hb hts hin_SlippedStreamsModel hown hK hP (hts _ k_813) (fun _ h9 => h9) d_SlippedStreamsModel_add_158 ?_
      refine lv_iload hx hb d_SlippedStreamsModel_add_161 (lv_at hl 5 rfl) ?_
      obtain ⟨hi, h⟩ := gin_e h
      obtain ⟨z4, e4, h⟩ := bnd_e h
      refine ms_3 hx hb hK hP hD hS hi d_SlippedStreamsModel_add_163 e4 (fun H locs hP hD hS => ?_)
      refine lv_aload_n hx hb d_SlippedStreamsModel_add_164 rfl (lv_at hl 1 rfl) ?_
      refine lv_aload_n hx hb d_SlippedStreamsModel_add_165 rfl (lv_at hl 1 rfl) ?_
      refine mg_0_count hx hb hts hin_SlippedStreamsModel hown hK hP (hts _ k_813) (fun _ h9 => h9) d_SlippedStreamsModel_add_166 ?_
      refine lv_iconst (v := 1) hx hb d_SlippedStreamsModel_add_169 (by decide) ?_
      refine lv_iadd hx hb d_SlippedStreamsModel_add_170 ?_
      obtain ⟨z5, e5, h⟩ := bnd_e h
      refine mp_0_count hx hb hts hin_SlippedStreamsModel hown hK hP hD hS (hts _ k_813) (fun _ h9 => h9) d_SlippedStreamsModel_add_171 e5 (fun H locs hP hD hS => ?_)
      refine lv_aload_n hx hb d_SlippedStreamsModel_add_174 rfl (lv_at hl 1 rfl) ?_
      obtain ⟨r6, z6, hc6, h⟩ := obn_e h
      refine q_gov (va_runV (As := []) (rest := []) ⟨hx, hb, hml, hown, hts⟩ (c_m_slice l dC dI cI cZ ad z5 _ hc6 _) (cwV 0 hts (q_goodL _ (q_l4 k_902 k_904 k_27 k_64) k_905) rfl rfl rfl (by decide +kernel) ⟨Nat.le_of_ble_eq_true rfl, Nat.le_of_ble_eq_true rfl⟩) (q_preV qok hKK hP hD (va_recv (ci := 9) (q0 := 0) hK hP rfl rfl)) rfl rfl hl.1 rfl (lv_room (Nat.le_of_ble_eq_true rfl)) d_SlippedStreamsModel_add_175 ⟨Nat.le_refl _, Nat.le_refl _⟩) hD hS hA (fun H locs hP hD hS => ?_)
      refine lv_aload_n hx hb d_SlippedStreamsModel_add_178 rfl (lv_at hl 1 rfl) ?_
      obtain ⟨r7, z7, hc7, h⟩ := obn_e h
      refine q_gov (va_runV (As := []) (rest := []) ⟨hx, hb, hml, hown, hts⟩ (c_m_reset l dC dI cI cZ ad z6 _ hc7 _) (cwV 0 hts (q_goodL _ (q_l4 k_909 k_910 k_911 k_64) k_912) rfl rfl rfl (by decide +kernel) ⟨Nat.le_of_ble_eq_true rfl, Nat.le_of_ble_eq_true rfl⟩) (q_preV qok hKK hP hD (va_recv (ci := 9) (q0 := 0) hK hP rfl rfl)) rfl rfl hl.1 rfl (lv_room (Nat.le_of_ble_eq_true rfl)) d_SlippedStreamsModel_add_179 ⟨Nat.le_refl _, Nat.le_refl _⟩) hD hS hA (fun H locs hP hD hS => ?_)
      refine lv_aload_n hx hb d_SlippedStreamsModel_add_182 rfl (lv_at hl 1 rfl) ?_
      refine mg_0_count hx hb hts hin_SlippedStreamsModel hown hK hP (hts _ k_813) (fun _ h9 => h9) d_SlippedStreamsModel_add_183 ?_
      refine lv_iconst (v := 1) hx hb d_SlippedStreamsModel_add_186 (by decide) ?_
      refine lv_isub hx hb d_SlippedStreamsModel_add_187 ?_
      exact q_iret hx hb hr hlocks h hP hD hS d_SlippedStreamsModel_add_188
    · replace h := if_t hc h
      refine lv_iconst (v := (-1)) hx hb d_SlippedStreamsModel_add_121 (by decide) ?_
      exact q_iret hx hb hr hlocks h hP hD hS d_SlippedStreamsModel_add_122
  have jp_113 : ∀ (z0 : ST) (y1 y2 y3 y4 y5 : Int32) (H : Heap) (locs : List Loc) (ls : Array Slot), m_add_113 z0 y1 y2 y3 y4 y5 = some R → va_P (dC, dI) q_cl (wM cI cZ ad z0) H → va_D A (wM cI cZ ad z0) → va_S A s.heap H locs → lv_has ls 6 [(0, .ref (ad 0)), (1, .int y1), (2, .int y2), (3, .int y3), (4, .int y4), (5, .int y5)] → qWi p l e w_SlippedStreamsModel_add 7 155 s m [.ref (ad 0), .int x1, .int x2, .int x3, .int x4] below meth c (dC, dI) q_cl (wM cI cZ ad) A R H locs (F0 m 113 ls []) := by
    intro z0 y1 y2 y3 y4 y5 H locs ls h hP hD hS hl
    unfold m_add_113 at h
    refine lv_iconst (v := 0) hx hb d_SlippedStreamsModel_add_113 (by decide) ?_
    exact jp_114 z0 y1 y2 y3 y4 y5 0 _ _ _ h hP hD hS (lv_sub hl [0, 1, 2, 3, 4, 5] rfl)
  have jp_109 : ∀ (z0 : ST) (y1 y2 y3 y4 y5 : Int32) (H : Heap) (locs : List Loc) (ls : Array Slot), m_add_109 z0 y1 y2 y3 y4 y5 = some R → va_P (dC, dI) q_cl (wM cI cZ ad z0) H → va_D A (wM cI cZ ad z0) → va_S A s.heap H locs → lv_has ls 6 [(0, .ref (ad 0)), (1, .int y1), (2, .int y2), (3, .int y3), (4, .int y4), (5, .int y5)] → qWi p l e w_SlippedStreamsModel_add 7 155 s m [.ref (ad 0), .int x1, .int x2, .int x3, .int x4] below meth c (dC, dI) q_cl (wM cI cZ ad) A R H locs (F0 m 109 ls []) := by
    intro z0 y1 y2 y3 y4 y5 H locs ls h hP hD hS hl
    unfold m_add_109 at h
    refine lv_iconst (v := 1) hx hb d_SlippedStreamsModel_add_109 (by decide) ?_
    refine lv_goto (tgt := 114) hx hb d_SlippedStreamsModel_add_110 (by decide) ?_
    exact jp_114 z0 y1 y2 y3 y4 y5 1 _ _ _ h hP hD hS (lv_sub hl [0, 1, 2, 3, 4, 5] rfl)
  have jp_97 : ∀ (z0 : ST) (y1 y2 y3 y4 y5 : Int32) (H : Heap) (locs : List Loc) (ls : Array Slot), m_add_97 z0 y1 y2 y3 y4 y5 = some R → va_P (dC, dI) q_cl (wM cI cZ ad z0) H → va_D A (wM cI cZ ad z0) → va_S A s.heap H locs → lv_has ls 6 [(0, .ref (ad 0)), (1, .int y1), (2, .int y2), (3, .int y3), (4, .int y4), (5, .int y5)] → qWi p l e w_SlippedStreamsModel_add 7 155 s m [.ref (ad 0), .int x1, .int x2, .int x3, .int x4] below meth c (dC, dI) q_cl (wM cI cZ ad) A R H locs (F0 m 97 ls []) := by
    intro z0 y1 y2 y3 y4 y5 H locs ls h hP hD hS hl
    unfold m_add_97 at h
    refine lv_iload hx hb d_SlippedStreamsModel_add_97 (lv_at hl 4 rfl) ?_
    refine lv_if_lt (tgt := 113) hx hb d_SlippedStreamsModel_add_99 (by decide) (fun hc => ?_) (fun hc => ?_)
    · replace h := if_t hc h
      exact jp_113 z0 y1 y2 y3 y4 y5 _ _ _ h hP hD hS (lv_sub hl [0, 1, 2, 3, 4, 5] rfl)
    · replace h := if_f hc h
      refine lv_iload hx hb d_SlippedStreamsModel_add_102 (lv_at hl 4 rfl) ?_
      refine lv_bipush (v := 24) hx hb d_SlippedStreamsModel_add_104 (by decide) ?_
      refine lv_icmp_gt (tgt := 113) hx hb d_SlippedStreamsModel_add_106 (by decide) (fun hc => ?_) (fun hc => ?_)
      · replace h := if_t hc h
        exact jp_113 z0 y1 y2 y3 y4 y5 _ _ _ h hP hD hS (lv_sub hl [0, 1, 2, 3, 4, 5] rfl)
      · replace h := if_f hc h
        exact jp_109 z0 y1 y2 y3 y4 y5 _ _ _ h hP hD hS (lv_sub hl [0, 1, 2, 3, 4, 5] rfl)
  have jp_85 : ∀ (z0 : ST) (y1 y2 y3 y4 y5 : Int32) (H : Heap) (locs : List Loc) (ls : Array Slot), m_add_85 z0 y1 y2 y3 y4 y5 = some R → va_P (dC, dI) q_cl (wM cI cZ ad z0) H → va_D A (wM cI cZ ad z0) → va_S A s.heap H locs → lv_has ls 6 [(0, .ref (ad 0)), (1, .int y1), (2, .int y2), (3, .int y3), (4, .int y4), (5, .int y5)] → qWi p l e w_SlippedStreamsModel_add 7 155 s m [.ref (ad 0), .int x1, .int x2, .int x3, .int x4] below meth c (dC, dI) q_cl (wM cI cZ ad) A R H locs (F0 m 85 ls []) := by
    intro z0 y1 y2 y3 y4 y5 H locs ls h hP hD hS hl
    unfold m_add_85 at h
    refine lv_iload_n hx hb d_SlippedStreamsModel_add_85 rfl (lv_at hl 1 rfl) ?_
    refine lv_bipush (v := 6) hx hb d_SlippedStreamsModel_add_86 (by decide) ?_
    refine lv_icmp_eq (tgt := 97) hx hb d_SlippedStreamsModel_add_88 (by decide) (fun hc => ?_) (fun hc => ?_)
    · replace h := if_t hc h
      exact jp_97 z0 y1 y2 y3 y4 y5 _ _ _ h hP hD hS (lv_sub hl [0, 1, 2, 3, 4, 5] rfl)
    · replace h := if_f hc h
      refine lv_iload_n hx hb d_SlippedStreamsModel_add_91 rfl (lv_at hl 1 rfl) ?_
      refine lv_bipush (v := 7) hx hb d_SlippedStreamsModel_add_92 (by decide) ?_
      refine lv_icmp_ne (tgt := 109) hx hb d_SlippedStreamsModel_add_94 (by decide) (fun hc => ?_) (fun hc => ?_)
      · replace h := if_f hc h
        exact jp_109 z0 y1 y2 y3 y4 y5 _ _ _ h hP hD hS (lv_sub hl [0, 1, 2, 3, 4, 5] rfl)
      · replace h := if_t hc h
        exact jp_97 z0 y1 y2 y3 y4 y5 _ _ _ h hP hD hS (lv_sub hl [0, 1, 2, 3, 4, 5] rfl)
  have jp_60 : ∀ (z0 : ST) (y1 y2 y3 y4 y5 y6 : Int32) (H : Heap) (locs : List Loc) (ls : Array Slot), m_add_60 z0 y1 y2 y3 y4 y5 y6 = some R → va_P (dC, dI) q_cl (wM cI cZ ad z0) H → va_D A (wM cI cZ ad z0) → va_S A s.heap H locs → lv_has ls 6 [(0, .ref (ad 0)), (1, .int y1), (2, .int y2), (3, .int y3), (4, .int y4), (5, .int y5)] → qWi p l e w_SlippedStreamsModel_add 7 155 s m [.ref (ad 0), .int x1, .int x2, .int x3, .int x4] below meth c (dC, dI) q_cl (wM cI cZ ad) A R H locs (F0 m 60 ls [.int y6]) := by
    intro z0 y1 y2 y3 y4 y5 y6 H locs ls h hP hD hS hl
    unfold m_add_60 at h
    refine lv_istore (lv' := [(5, .int y6), (0, .ref (ad 0)), (1, .int y1), (2, .int y2), (3, .int y3), (4, .int y4)]) hx hb d_SlippedStreamsModel_add_60 hl (by decide) rfl (fun ls hl => ?_)
    refine lv_iload hx hb d_SlippedStreamsModel_add_62 (lv_at hl 0 rfl) ?_
    refine lv_if_eq (tgt := 113) hx hb d_SlippedStreamsModel_add_64 (by decide) (fun hc => ?_) (fun hc => ?_)
    · replace h := if_t hc h
      exact jp_113 z0 y1 y2 y3 y4 y6 _ _ _ h hP hD hS (lv_sub hl [1, 2, 3, 4, 5, 0] rfl)
    · replace h := if_f hc h
      refine lv_iload_n hx hb d_SlippedStreamsModel_add_67 rfl (lv_at hl 2 rfl) ?_
      refine lv_iconst (v := 1) hx hb d_SlippedStreamsModel_add_68 (by decide) ?_
      refine lv_icmp_lt (tgt := 85) hx hb d_SlippedStreamsModel_add_69 (by decide) (fun hc => ?_) (fun hc => ?_)
      · replace h := if_t hc h
        exact jp_85 z0 y1 y2 y3 y4 y6 _ _ _ h hP hD hS (lv_sub hl [1, 2, 3, 4, 5, 0] rfl)
      · replace h := if_f hc h
        refine lv_iload_n hx hb d_SlippedStreamsModel_add_72 rfl (lv_at hl 2 rfl) ?_
        refine lv_iconst (v := 3) hx hb d_SlippedStreamsModel_add_73 (by decide) ?_
        refine lv_icmp_gt (tgt := 85) hx hb d_SlippedStreamsModel_add_74 (by decide) (fun hc => ?_) (fun hc => ?_)
        · replace h := if_t hc h
          exact jp_85 z0 y1 y2 y3 y4 y6 _ _ _ h hP hD hS (lv_sub hl [1, 2, 3, 4, 5, 0] rfl)
        · replace h := if_f hc h
          refine lv_iload hx hb d_SlippedStreamsModel_add_77 (lv_at hl 5 rfl) ?_
          obtain ⟨r8, z8, hc8, h⟩ := obn_e h
          refine q_goi (va_runS (As := [.int y4]) (rest := []) ⟨hx, hb, hml, hown, hts⟩ (c_m_isRegister l dC dI cI cZ ad z0 y4 _ hc8 _) (va_cwS 1 hts (q_goodL _ (q_l3 k_899 k_900 k_64) k_901) rfl rfl rfl (by decide +kernel) ⟨Nat.le_of_ble_eq_true rfl, Nat.le_of_ble_eq_true rfl⟩) (q_preS qok hKK hP hD) rfl rfl hl.1 rfl (lv_room (Nat.le_of_ble_eq_true rfl)) d_SlippedStreamsModel_add_79 ⟨Nat.le_refl _, Nat.le_refl _⟩) hD hS hA (fun H locs hP hD hS => ?_)
          refine lv_if_eq (tgt := 113) hx hb d_SlippedStreamsModel_add_82 (by decide) (fun hc => ?_) (fun hc => ?_)
          · replace h := if_t hc h
            exact jp_113 z8 y1 y2 y3 y4 y6 _ _ _ h hP hD hS (lv_sub hl [1, 2, 3, 4, 5, 0] rfl)
          · replace h := if_f hc h
            exact jp_85 z8 y1 y2 y3 y4 y6 _ _ _ h hP hD hS (lv_sub hl [1, 2, 3, 4, 5, 0] rfl)
  have jp_59 : ∀ (z0 : ST) (y1 y2 y3 y4 y5 : Int32) (H : Heap) (locs : List Loc) (ls : Array Slot), m_add_59 z0 y1 y2 y3 y4 y5 = some R → va_P (dC, dI) q_cl (wM cI cZ ad z0) H → va_D A (wM cI cZ ad z0) → va_S A s.heap H locs → lv_has ls 6 [(0, .ref (ad 0)), (1, .int y1), (2, .int y2), (3, .int y3), (4, .int y4), (5, .int y5)] → qWi p l e w_SlippedStreamsModel_add 7 155 s m [.ref (ad 0), .int x1, .int x2, .int x3, .int x4] below meth c (dC, dI) q_cl (wM cI cZ ad) A R H locs (F0 m 59 ls []) := by
    intro z0 y1 y2 y3 y4 y5 H locs ls h hP hD hS hl
    unfold m_add_59 at h
    refine lv_iconst (v := 0) hx hb d_SlippedStreamsModel_add_59 (by decide) ?_
    exact jp_60 z0 y1 y2 y3 y4 y5 0 _ _ _ h hP hD hS (lv_sub hl [0, 1, 2, 3, 4, 5] rfl)
  have jp_55 : ∀ (z0 : ST) (y1 y2 y3 y4 y5 : Int32) (H : Heap) (locs : List Loc) (ls : Array Slot), m_add_55 z0 y1 y2 y3 y4 y5 = some R → va_P (dC, dI) q_cl (wM cI cZ ad z0) H → va_D A (wM cI cZ ad z0) → va_S A s.heap H locs → lv_has ls 6 [(0, .ref (ad 0)), (1, .int y1), (2, .int y2), (3, .int y3), (4, .int y4), (5, .int y5)] → qWi p l e w_SlippedStreamsModel_add 7 155 s m [.ref (ad 0), .int x1, .int x2, .int x3, .int x4] below meth c (dC, dI) q_cl (wM cI cZ ad) A R H locs (F0 m 55 ls []) := by
    intro z0 y1 y2 y3 y4 y5 H locs ls h hP hD hS hl
    unfold m_add_55 at h
    refine lv_iconst (v := 1) hx hb d_SlippedStreamsModel_add_55 (by decide) ?_
    refine lv_goto (tgt := 60) hx hb d_SlippedStreamsModel_add_56 (by decide) ?_
    exact jp_60 z0 y1 y2 y3 y4 y5 1 _ _ _ h hP hD hS (lv_sub hl [0, 1, 2, 3, 4, 5] rfl)
  have jp_31 : ∀ (z0 : ST) (y1 y2 y3 y4 y5 : Int32) (H : Heap) (locs : List Loc) (ls : Array Slot), m_add_31 z0 y1 y2 y3 y4 y5 = some R → va_P (dC, dI) q_cl (wM cI cZ ad z0) H → va_D A (wM cI cZ ad z0) → va_S A s.heap H locs → lv_has ls 6 [(0, .ref (ad 0)), (1, .int y1), (2, .int y2), (3, .int y3), (4, .int y4)] → qWi p l e w_SlippedStreamsModel_add 7 155 s m [.ref (ad 0), .int x1, .int x2, .int x3, .int x4] below meth c (dC, dI) q_cl (wM cI cZ ad) A R H locs (F0 m 31 ls [.int y5]) := by
    intro z0 y1 y2 y3 y4 y5 H locs ls h hP hD hS hl
    unfold m_add_31 at h
    refine lv_istore (lv' := [(5, .int y5), (0, .ref (ad 0)), (1, .int y1), (2, .int y2), (3, .int y3), (4, .int y4)]) hx hb d_SlippedStreamsModel_add_31 hl (by decide) rfl (fun ls hl => ?_)
    refine lv_iload hx hb d_SlippedStreamsModel_add_33 (lv_at hl 0 rfl) ?_
    refine lv_if_eq (tgt := 59) hx hb d_SlippedStreamsModel_add_35 (by decide) (fun hc => ?_) (fun hc => ?_)
    · replace h := if_t hc h
      exact jp_59 z0 y1 y2 y3 y4 y5 _ _ _ h hP hD hS (lv_sub hl [1, 2, 3, 4, 5, 0] rfl)
    · replace h := if_f hc h
      refine lv_iload_n hx hb d_SlippedStreamsModel_add_38 rfl (lv_at hl 2 rfl) ?_
      refine lv_if_eq (tgt := 55) hx hb d_SlippedStreamsModel_add_39 (by decide) (fun hc => ?_) (fun hc => ?_)
      · replace h := if_t hc h
        exact jp_55 z0 y1 y2 y3 y4 y5 _ _ _ h hP hD hS (lv_sub hl [1, 2, 3, 4, 5, 0] rfl)
      · replace h := if_f hc h
        refine lv_iload_n hx hb d_SlippedStreamsModel_add_42 rfl (lv_at hl 2 rfl) ?_
        refine lv_bipush (v := 8) hx hb d_SlippedStreamsModel_add_43 (by decide) ?_
        refine lv_icmp_eq (tgt := 55) hx hb d_SlippedStreamsModel_add_45 (by decide) (fun hc => ?_) (fun hc => ?_)
        · replace h := if_t hc h
          exact jp_55 z0 y1 y2 y3 y4 y5 _ _ _ h hP hD hS (lv_sub hl [1, 2, 3, 4, 5, 0] rfl)
        · replace h := if_f hc h
          refine lv_iload_n hx hb d_SlippedStreamsModel_add_48 rfl (lv_at hl 4 rfl) ?_
          obtain ⟨r9, z9, hc9, h⟩ := obn_e h
          refine q_goi (va_runS (As := [.int y3]) (rest := []) ⟨hx, hb, hml, hown, hts⟩ (c_m_isRegister l dC dI cI cZ ad z0 y3 _ hc9 _) (va_cwS 1 hts (q_goodL _ (q_l3 k_899 k_900 k_64) k_901) rfl rfl rfl (by decide +kernel) ⟨Nat.le_of_ble_eq_true rfl, Nat.le_of_ble_eq_true rfl⟩) (q_preS qok hKK hP hD) rfl rfl hl.1 rfl (lv_room (Nat.le_of_ble_eq_true rfl)) d_SlippedStreamsModel_add_49 ⟨Nat.le_refl _, Nat.le_refl _⟩) hD hS hA (fun H locs hP hD hS => ?_)
          refine lv_if_eq (tgt := 59) hx hb d_SlippedStreamsModel_add_52 (by decide) (fun hc => ?_) (fun hc => ?_)
          · replace h := if_t hc h
            exact jp_59 z9 y1 y2 y3 y4 y5 _ _ _ h hP hD hS (lv_sub hl [1, 2, 3, 4, 5, 0] rfl)
          · replace h := if_f hc h
            exact jp_55 z9 y1 y2 y3 y4 y5 _ _ _ h hP hD hS (lv_sub hl [1, 2, 3, 4, 5, 0] rfl)
  have jp_30 : ∀ (z0 : ST) (y1 y2 y3 y4 : Int32) (H : Heap) (locs : List Loc) (ls : Array Slot), m_add_30 z0 y1 y2 y3 y4 = some R → va_P (dC, dI) q_cl (wM cI cZ ad z0) H → va_D A (wM cI cZ ad z0) → va_S A s.heap H locs → lv_has ls 6 [(0, .ref (ad 0)), (1, .int y1), (2, .int y2), (3, .int y3), (4, .int y4)] → qWi p l e w_SlippedStreamsModel_add 7 155 s m [.ref (ad 0), .int x1, .int x2, .int x3, .int x4] below meth c (dC, dI) q_cl (wM cI cZ ad) A R H locs (F0 m 30 ls []) := by
    intro z0 y1 y2 y3 y4 H locs ls h hP hD hS hl
    unfold m_add_30 at h
    refine lv_iconst (v := 0) hx hb d_SlippedStreamsModel_add_30 (by decide) ?_
    exact jp_31 z0 y1 y2 y3 y4 0 _ _ _ h hP hD hS (lv_sub hl [0, 1, 2, 3, 4] rfl)
  unfold m_add at h
  refine lv_aload_n hx hb d_SlippedStreamsModel_add_0 rfl (lv_at hl 0 rfl) ?_
  refine mg_0_count hx hb hts hin_SlippedStreamsModel hown hK hP (hts _ k_813) (fun _ h9 => h9) d_SlippedStreamsModel_add_1 ?_
  refine lv_bipush (v := 24) hx hb d_SlippedStreamsModel_add_4 (by decide) ?_
  refine lv_icmp_ge (tgt := 30) hx hb d_SlippedStreamsModel_add_6 (by decide) (fun hc => ?_) (fun hc => ?_)
  · replace h := if_t hc h
    exact jp_30 z0 x1 x2 x3 x4 _ _ _ h hP hD hS (lv_sub hl [0, 1, 2, 3, 4] rfl)
  · replace h := if_f hc h
    refine lv_iload_n hx hb d_SlippedStreamsModel_add_9 rfl (lv_at hl 1 rfl) ?_
    refine lv_if_lt (tgt := 30) hx hb d_SlippedStreamsModel_add_10 (by decide) (fun hc => ?_) (fun hc => ?_)
    · replace h := if_t hc h
      exact jp_30 z0 x1 x2 x3 x4 _ _ _ h hP hD hS (lv_sub hl [0, 1, 2, 3, 4] rfl)
    · replace h := if_f hc h
      refine lv_iload_n hx hb d_SlippedStreamsModel_add_13 rfl (lv_at hl 1 rfl) ?_
      refine lv_bipush (v := 9) hx hb d_SlippedStreamsModel_add_14 (by decide) ?_
      refine lv_icmp_ge (tgt := 30) hx hb d_SlippedStreamsModel_add_16 (by decide) (fun hc => ?_) (fun hc => ?_)
      · replace h := if_t hc h
        exact jp_30 z0 x1 x2 x3 x4 _ _ _ h hP hD hS (lv_sub hl [0, 1, 2, 3, 4] rfl)
      · replace h := if_f hc h
        refine lv_iload_n hx hb d_SlippedStreamsModel_add_19 rfl (lv_at hl 2 rfl) ?_
        obtain ⟨r10, z10, hc10, h⟩ := obn_e h
        refine q_goi (va_runS (As := [.int x2]) (rest := []) ⟨hx, hb, hml, hown, hts⟩ (c_m_isRegister l dC dI cI cZ ad z0 x2 _ hc10 _) (va_cwS 1 hts (q_goodL _ (q_l3 k_899 k_900 k_64) k_901) rfl rfl rfl (by decide +kernel) ⟨Nat.le_of_ble_eq_true rfl, Nat.le_of_ble_eq_true rfl⟩) (q_preS qok hKK hP hD) rfl rfl hl.1 rfl (lv_room (Nat.le_of_ble_eq_true rfl)) d_SlippedStreamsModel_add_20 ⟨Nat.le_refl _, Nat.le_refl _⟩) hD hS hA (fun H locs hP hD hS => ?_)
        refine lv_if_eq (tgt := 30) hx hb d_SlippedStreamsModel_add_23 (by decide) (fun hc => ?_) (fun hc => ?_)
        · replace h := if_t hc h
          exact jp_30 z10 x1 x2 x3 x4 _ _ _ h hP hD hS (lv_sub hl [0, 1, 2, 3, 4] rfl)
        · replace h := if_f hc h
          refine lv_iconst (v := 1) hx hb d_SlippedStreamsModel_add_26 (by decide) ?_
          refine lv_goto (tgt := 31) hx hb d_SlippedStreamsModel_add_27 (by decide) ?_
          exact jp_31 z10 x1 x2 x3 x4 1 _ _ _ h hP hD hS (lv_sub hl [0, 1, 2, 3, 4] rfl)
