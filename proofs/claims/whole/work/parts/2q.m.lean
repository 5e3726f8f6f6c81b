def m_moveValue_73 (z0 : ST) (y1 y2 y3 : Int32) : OR := obn (m_leave z0 y2 y3) (fun r1 z1 => gib 1 (some (1, z1)))
def m_moveValue (z0 : ST) : OR := gin 1 2 (if (z0.2 6 (1 : Int32).toNatClampNeg) < (z0.1 0) then (obn (m_belongs z0 (z0.2 6 (1 : Int32).toNatClampNeg)) (fun r2 z2 => if r2 = 0 then (obn (m_isBranch z2 (z0.2 6 (1 : Int32).toNatClampNeg)) (fun r7 z7 => if r7 = 0 then (obn (m_give z7 (z0.2 6 (1 : Int32).toNatClampNeg)) (fun r9 z9 => gib r9 (some (r9, z9)))) else (gin 2 5 (if (z7.2 10 (2 : Int32).toNatClampNeg) = 0 then (gib 0 (some (0, z7))) else (obn (m_take z7 2) (fun r8 z8 => if r8 = 1 then (gin (z0.2 6 (1 : Int32).toNatClampNeg) 24 (m_moveValue_73 z8 (z0.2 6 (1 : Int32).toNatClampNeg) 1 (z8.2 3 (z0.2 6 (1 : Int32).toNatClampNeg).toNatClampNeg))) else (m_moveValue_73 z8 (z0.2 6 (1 : Int32).toNatClampNeg) 1 ((z0.2 6 (1 : Int32).toNatClampNeg) + 1)))))))) else (gin (z0.2 6 (1 : Int32).toNatClampNeg) 24 (if (z2.2 0 (z0.2 6 (1 : Int32).toNatClampNeg).toNatClampNeg) = 4 then (gin 0 5 (if (z2.2 10 (0 : Int32).toNatClampNeg) = 0 then (gib 0 (some (0, z2))) else (gin (z0.2 6 (1 : Int32).toNatClampNeg) 24 (obn (m_take z2 0) (fun r3 z3 => gin (8 + (z2.2 1 (z0.2 6 (1 : Int32).toNatClampNeg).toNatClampNeg)) 16 (bnd (stA z3 5 (upd (z3.2 5) (8 + (z2.2 1 (z0.2 6 (1 : Int32).toNatClampNeg).toNatClampNeg)).toNatClampNeg r3)) (fun z4 => obn (m_leave z4 1 ((z0.2 6 (1 : Int32).toNatClampNeg) + 1)) (fun r5 z5 => gib 1 (some (1, z5)))))))))) else (obn (m_work z2 (z0.2 6 (1 : Int32).toNatClampNeg)) (fun r6 z6 => gib r6 (some (r6, z6)))))))) else (gib 0 (some (0, z0))))
set_option maxRecDepth 100000 in
set_option maxHeartbeats 4000000 in
theorem c_m_moveValue (l : Launch) (dC : Nat → ClassId) (dI : Nat → Nat → Nat) (cI cZ : ClassId) (ad : Nat → Nat) (z0 : ST) (R : Int32 × ST) (h : m_moveValue z0 = some R) : qMi l y_SlippedStreamsModel_moveValue w_SlippedStreamsModel_moveValue 8 182 (KX dC dI cI cZ) (dC, dI) q_cl (wM cI cZ ad) [.ref (ad 0)] z0 R := by
  intro sz
  refine Met.ofW (cc := b_SlippedStreamsModel_moveValue) (maxL := 2) (ret := (some .boolean)) (by decide) rfl ?_
  intro p e s m args below meth c s₁ B hml hv
  obtain ⟨rfl, hsz, hP, hKK, hD0⟩ := hv
  have hx := B.exec
  have hb := B.bytes
  have hr := B.returns
  have hts : ∀ w ∈ q_big, w.before _ s = true := fun w h => atoms_spec (ws := w_SlippedStreamsModel_moveValue) B.pre w (List.mem_cons_of_mem _ h)
  have hown : s.vm.findClass "SlippedStreamsModel" = some m.cls := findClass_of_methodNamed B.named
  have hlocks := B.notSynchronized
  subst hsz
  have hD := hD0.self (sz := s.heap.size)
  generalize hAe : va_A (wM cI cZ ad z0) s.heap.size = A at hD ⊢
  have hA : ∀ q : Nat, s.heap.size ≤ q → A q := fun q h => by rw [← hAe]; exact Or.inr h
  have hS : va_S A s.heap s.heap [] := va_S.rf
  have hK := hKK.1
  have hl := lv_entry ([.ref (ad 0)]) (n := 2) (Nat.le_of_ble_eq_true rfl)
  rw [lg_entry_eq]
  generalize (lg_sl ([.ref (ad 0)]) ++ List.replicate (2 - (lg_sl ([.ref (ad 0)])).length) Slot.unset).toArray = ls at hl ⊢
  have hl : lv_has ls 2 [(0, .ref (ad 0))] := hl
  have jp_73 : ∀ (z0 : ST) (y1 y2 y3 : Int32) (H : Heap) (locs : List Loc) (ls : Array Slot), m_moveValue_73 z0 y1 y2 y3 = some R → va_P (dC, dI) q_cl (wM cI cZ ad z0) H → va_D A (wM cI cZ ad z0) → va_S A s.heap H locs → lv_has ls 2 [(0, .ref (ad 0)), (1, .int y1)] → qWi p l e w_SlippedStreamsModel_moveValue 8 182 s m [.ref (ad 0)] below meth c (dC, dI) q_cl (wM cI cZ ad) A R H locs (F0 m 73 ls [.int y3, .int y2, .ref (ad 0)]) := by
    intro z0 y1 y2 y3 H locs ls h hP hD hS hl
    unfold m_moveValue_73 at h
    obtain ⟨r1, z1, hc1, h⟩ := obn_e h
    refine q_gov (va_runV (As := [.int y2, .int y3]) (rest := []) ⟨hx, hb, hml, hown, hts⟩ (c_m_leave l dC dI cI cZ ad z0 y2 y3 _ hc1 _) (cwV 2 hts (q_goodL _ (q_l4 k_977 k_979 k_40 k_64) k_980) rfl rfl rfl (by decide +kernel) ⟨Nat.le_of_ble_eq_true rfl, Nat.le_of_ble_eq_true rfl⟩) (q_preV qok hKK hP hD (va_recv (ci := 9) (q0 := 0) hK hP rfl rfl)) rfl rfl hl.1 rfl (lv_room (Nat.le_of_ble_eq_true rfl)) d_SlippedStreamsModel_moveValue_73 ⟨Nat.le_refl _, Nat.le_refl _⟩) hD hS hA (fun H locs hP hD hS => ?_)
    refine lv_iconst (v := 1) hx hb d_SlippedStreamsModel_moveValue_76 (by decide) ?_
    exact q_zret hx hb hr hlocks h hP hD hS d_SlippedStreamsModel_moveValue_77
  unfold m_moveValue at h
  refine lv_aload_n hx hb d_SlippedStreamsModel_moveValue_0 rfl (lv_at hl 0 rfl) ?_
  refine mg_0_places hx hb hts hin_SlippedStreamsModel hown hK hP (hts _ k_822) (fun _ h9 => h9) d_SlippedStreamsModel_moveValue_1 ?_
  refine lv_iconst (v := 1) hx hb d_SlippedStreamsModel_moveValue_4 (by decide) ?_
  obtain ⟨hi, h⟩ := gin_e h
  refine ml_6 hx hb hK hP hi d_SlippedStreamsModel_moveValue_5 ?_
  refine lv_istore_n (lv' := [(1, .int (z0.2 6 (1 : Int32).toNatClampNeg)), (0, .ref (ad 0))]) hx hb d_SlippedStreamsModel_moveValue_6 rfl hl (by decide) rfl (fun ls hl => ?_)
  refine lv_iload_n hx hb d_SlippedStreamsModel_moveValue_7 rfl (lv_at hl 0 rfl) ?_
  refine lv_aload_n hx hb d_SlippedStreamsModel_moveValue_8 rfl (lv_at hl 1 rfl) ?_
  refine mg_0_count hx hb hts hin_SlippedStreamsModel hown hK hP (hts _ k_813) (fun _ h9 => h9) d_SlippedStreamsModel_moveValue_9 ?_
  refine lv_icmp_lt (tgt := 17) hx hb d_SlippedStreamsModel_moveValue_12 (by decide) (fun hc => ?_) (fun hc => ?_)
  · replace h := if_t hc h
    refine lv_aload_n hx hb d_SlippedStreamsModel_moveValue_17 rfl (lv_at hl 1 rfl) ?_
    refine lv_iload_n hx hb d_SlippedStreamsModel_moveValue_18 rfl (lv_at hl 0 rfl) ?_
    obtain ⟨r2, z2, hc2, h⟩ := obn_e h
    refine q_goi (va_runV (As := [.int (z0.2 6 (1 : Int32).toNatClampNeg)]) (rest := []) ⟨hx, hb, hml, hown, hts⟩ (c_m_belongs l dC dI cI cZ ad z0 (z0.2 6 (1 : Int32).toNatClampNeg) _ hc2 _) (cwV 1 hts (q_goodL _ (q_l4 k_925 k_927 k_31 k_64) k_928) rfl rfl rfl (by decide +kernel) ⟨Nat.le_of_ble_eq_true rfl, Nat.le_of_ble_eq_true rfl⟩) (q_preV qok hKK hP hD (va_recv (ci := 9) (q0 := 0) hK hP rfl rfl)) rfl rfl hl.1 rfl (lv_room (Nat.le_of_ble_eq_true rfl)) d_SlippedStreamsModel_moveValue_19 ⟨Nat.le_refl _, Nat.le_refl _⟩) hD hS hA (fun H locs hP hD hS => ?_)
    refine lv_if_ne (tgt := 78) hx hb d_SlippedStreamsModel_moveValue_22 (by decide) (fun hc => ?_) (fun hc => ?_)
    · replace h := if_f hc h
      refine lv_aload_n hx hb d_SlippedStreamsModel_moveValue_78 rfl (lv_at hl 1 rfl) ?_
      refine mg_0_kinds hx hb hts hin_SlippedStreamsModel hown hK hP (hts _ k_814) (fun _ h9 => h9) d_SlippedStreamsModel_moveValue_79 ?_
      refine lv_iload_n hx hb d_SlippedStreamsModel_moveValue_82 rfl (lv_at hl 0 rfl) ?_
      obtain ⟨hi, h⟩ := gin_e h
      refine ml_0 hx hb hK hP hi d_SlippedStreamsModel_moveValue_83 ?_
      refine lv_iconst (v := 4) hx hb d_SlippedStreamsModel_moveValue_84 (by decide) ?_
      refine lv_icmp_eq (tgt := 94) hx hb d_SlippedStreamsModel_moveValue_85 (by decide) (fun hc => ?_) (fun hc => ?_)
      · replace h := if_t hc h
        refine lv_aload_n hx hb d_SlippedStreamsModel_moveValue_94 rfl (lv_at hl 1 rfl) ?_
        refine mg_0_lengths hx hb hts hin_SlippedStreamsModel hown hK hP (hts _ k_829) (fun _ h9 => h9) d_SlippedStreamsModel_moveValue_95 ?_
        refine lv_iconst (v := 0) hx hb d_SlippedStreamsModel_moveValue_98 (by decide) ?_
        obtain ⟨hi, h⟩ := gin_e h
        refine ml_10 hx hb hK hP hi d_SlippedStreamsModel_moveValue_99 ?_
        refine lv_if_ne (tgt := 105) hx hb d_SlippedStreamsModel_moveValue_100 (by decide) (fun hc => ?_) (fun hc => ?_)
        · replace h := if_f hc h
          refine lv_aload_n hx hb d_SlippedStreamsModel_moveValue_105 rfl (lv_at hl 1 rfl) ?_
          refine mg_0_registers hx hb hts hin_SlippedStreamsModel hown hK hP (hts _ k_821) (fun _ h9 => h9) d_SlippedStreamsModel_moveValue_106 ?_
          refine lv_bipush (v := 8) hx hb d_SlippedStreamsModel_moveValue_109 (by decide) ?_
          refine lv_aload_n hx hb d_SlippedStreamsModel_moveValue_111 rfl (lv_at hl 1 rfl) ?_
          refine mg_0_as hx hb hts hin_SlippedStreamsModel hown hK hP (hts _ k_815) (fun _ h9 => h9) d_SlippedStreamsModel_moveValue_112 ?_
          refine lv_iload_n hx hb d_SlippedStreamsModel_moveValue_115 rfl (lv_at hl 0 rfl) ?_
          obtain ⟨hi, h⟩ := gin_e h
          refine ml_1 hx hb hK hP hi d_SlippedStreamsModel_moveValue_116 ?_
          refine lv_iadd hx hb d_SlippedStreamsModel_moveValue_117 ?_
          refine lv_aload_n hx hb d_SlippedStreamsModel_moveValue_118 rfl (lv_at hl 1 rfl) ?_
          refine lv_iconst (v := 0) hx hb d_SlippedStreamsModel_moveValue_119 (by decide) ?_
          obtain ⟨r3, z3, hc3, h⟩ := obn_e h
          refine q_goi (va_runV (As := [.int 0]) (rest := [.int (8 + (z2.2 1 (z0.2 6 (1 : Int32).toNatClampNeg).toNatClampNeg)), .ref (ad 6)]) ⟨hx, hb, hml, hown, hts⟩ (c_m_take l dC dI cI cZ ad z2 0 _ hc3 _) (cwV 1 hts (q_goodL _ (q_l4 k_985 k_987 k_42 k_64) k_988) rfl rfl rfl (by decide +kernel) ⟨Nat.le_of_ble_eq_true rfl, Nat.le_of_ble_eq_true rfl⟩) (q_preV qok hKK hP hD (va_recv (ci := 9) (q0 := 0) hK hP rfl rfl)) rfl rfl hl.1 rfl (lv_room (Nat.le_of_ble_eq_true rfl)) d_SlippedStreamsModel_moveValue_120 ⟨Nat.le_refl _, Nat.le_refl _⟩) hD hS hA (fun H locs hP hD hS => ?_)
          obtain ⟨hi, h⟩ := gin_e h
          obtain ⟨z4, e4, h⟩ := bnd_e h
          refine ms_5 hx hb hK hP hD hS hi d_SlippedStreamsModel_moveValue_123 e4 (fun H locs hP hD hS => ?_)
          refine lv_aload_n hx hb d_SlippedStreamsModel_moveValue_124 rfl (lv_at hl 1 rfl) ?_
          refine lv_iconst (v := 1) hx hb d_SlippedStreamsModel_moveValue_125 (by decide) ?_
          refine lv_iload_n hx hb d_SlippedStreamsModel_moveValue_126 rfl (lv_at hl 0 rfl) ?_
          refine lv_iconst (v := 1) hx hb d_SlippedStreamsModel_moveValue_127 (by decide) ?_
          refine lv_iadd hx hb d_SlippedStreamsModel_moveValue_128 ?_
          obtain ⟨r5, z5, hc5, h⟩ := obn_e h
          refine q_gov (va_runV (As := [.int 1, .int ((z0.2 6 (1 : Int32).toNatClampNeg) + 1)]) (rest := []) ⟨hx, hb, hml, hown, hts⟩ (c_m_leave l dC dI cI cZ ad z4 1 ((z0.2 6 (1 : Int32).toNatClampNeg) + 1) _ hc5 _) (cwV 2 hts (q_goodL _ (q_l4 k_977 k_979 k_40 k_64) k_980) rfl rfl rfl (by decide +kernel) ⟨Nat.le_of_ble_eq_true rfl, Nat.le_of_ble_eq_true rfl⟩) (q_preV qok hKK hP hD (va_recv (ci := 9) (q0 := 0) hK hP rfl rfl)) rfl rfl hl.1 rfl (lv_room (Nat.le_of_ble_eq_true rfl)) d_SlippedStreamsModel_moveValue_129 ⟨Nat.le_refl _, Nat.le_refl _⟩) hD hS hA (fun H locs hP hD hS => ?_)
          refine lv_iconst (v := 1) hx hb d_SlippedStreamsModel_moveValue_132 (by decide) ?_
          exact q_zret hx hb hr hlocks h hP hD hS d_SlippedStreamsModel_moveValue_133
        · replace h := if_t hc h
          refine lv_iconst (v := 0) hx hb d_SlippedStreamsModel_moveValue_103 (by decide) ?_
          exact q_zret hx hb hr hlocks h hP hD hS d_SlippedStreamsModel_moveValue_104
      · replace h := if_f hc h
        refine lv_aload_n hx hb d_SlippedStreamsModel_moveValue_88 rfl (lv_at hl 1 rfl) ?_
        refine lv_iload_n hx hb d_SlippedStreamsModel_moveValue_89 rfl (lv_at hl 0 rfl) ?_
        obtain ⟨r6, z6, hc6, h⟩ := obn_e h
        refine q_goi (va_runV (As := [.int (z0.2 6 (1 : Int32).toNatClampNeg)]) (rest := []) ⟨hx, hb, hml, hown, hts⟩ (c_m_work l dC dI cI cZ ad z2 (z0.2 6 (1 : Int32).toNatClampNeg) _ hc6 _) (cwV 1 hts (q_goodL _ (q_l4 k_1019 k_1021 k_48 k_64) k_1022) rfl rfl rfl (by decide +kernel) ⟨Nat.le_of_ble_eq_true rfl, Nat.le_of_ble_eq_true rfl⟩) (q_preV qok hKK hP hD (va_recv (ci := 9) (q0 := 0) hK hP rfl rfl)) rfl rfl hl.1 rfl (lv_room (Nat.le_of_ble_eq_true rfl)) d_SlippedStreamsModel_moveValue_90 ⟨Nat.le_refl _, Nat.le_refl _⟩) hD hS hA (fun H locs hP hD hS => ?_)
        exact q_zret hx hb hr hlocks h hP hD hS d_SlippedStreamsModel_moveValue_93
    · replace h := if_t hc h
      refine lv_aload_n hx hb d_SlippedStreamsModel_moveValue_25 rfl (lv_at hl 1 rfl) ?_
      refine lv_iload_n hx hb d_SlippedStreamsModel_moveValue_26 rfl (lv_at hl 0 rfl) ?_
      obtain ⟨r7, z7, hc7, h⟩ := obn_e h
      refine q_goi (va_runV (As := [.int (z0.2 6 (1 : Int32).toNatClampNeg)]) (rest := []) ⟨hx, hb, hml, hown, hts⟩ (c_m_isBranch l dC dI cI cZ ad z2 (z0.2 6 (1 : Int32).toNatClampNeg) _ hc7 _) (cwV 1 hts (q_goodL _ (q_l4 k_921 k_923 k_30 k_64) k_924) rfl rfl rfl (by decide +kernel) ⟨Nat.le_of_ble_eq_true rfl, Nat.le_of_ble_eq_true rfl⟩) (q_preV qok hKK hP hD (va_recv (ci := 9) (q0 := 0) hK hP rfl rfl)) rfl rfl hl.1 rfl (lv_room (Nat.le_of_ble_eq_true rfl)) d_SlippedStreamsModel_moveValue_27 ⟨Nat.le_refl _, Nat.le_refl _⟩) hD hS hA (fun H locs hP hD hS => ?_)
      refine lv_if_ne (tgt := 39) hx hb d_SlippedStreamsModel_moveValue_30 (by decide) (fun hc => ?_) (fun hc => ?_)
      · replace h := if_f hc h
        refine lv_aload_n hx hb d_SlippedStreamsModel_moveValue_39 rfl (lv_at hl 1 rfl) ?_
        refine mg_0_lengths hx hb hts hin_SlippedStreamsModel hown hK hP (hts _ k_829) (fun _ h9 => h9) d_SlippedStreamsModel_moveValue_40 ?_
        refine lv_iconst (v := 2) hx hb d_SlippedStreamsModel_moveValue_43 (by decide) ?_
        obtain ⟨hi, h⟩ := gin_e h
        refine ml_10 hx hb hK hP hi d_SlippedStreamsModel_moveValue_44 ?_
        refine lv_if_ne (tgt := 50) hx hb d_SlippedStreamsModel_moveValue_45 (by decide) (fun hc => ?_) (fun hc => ?_)
        · replace h := if_f hc h
          refine lv_aload_n hx hb d_SlippedStreamsModel_moveValue_50 rfl (lv_at hl 1 rfl) ?_
          refine lv_iconst (v := 1) hx hb d_SlippedStreamsModel_moveValue_51 (by decide) ?_
          refine lv_aload_n hx hb d_SlippedStreamsModel_moveValue_52 rfl (lv_at hl 1 rfl) ?_
          refine lv_iconst (v := 2) hx hb d_SlippedStreamsModel_moveValue_53 (by decide) ?_
          obtain ⟨r8, z8, hc8, h⟩ := obn_e h
          refine q_goi (va_runV (As := [.int 2]) (rest := [.int 1, .ref (ad 0)]) ⟨hx, hb, hml, hown, hts⟩ (c_m_take l dC dI cI cZ ad z7 2 _ hc8 _) (cwV 1 hts (q_goodL _ (q_l4 k_985 k_987 k_42 k_64) k_988) rfl rfl rfl (by decide +kernel) ⟨Nat.le_of_ble_eq_true rfl, Nat.le_of_ble_eq_true rfl⟩) (q_preV qok hKK hP hD (va_recv (ci := 9) (q0 := 0) hK hP rfl rfl)) rfl rfl hl.1 rfl (lv_room (Nat.le_of_ble_eq_true rfl)) d_SlippedStreamsModel_moveValue_54 ⟨Nat.le_refl _, Nat.le_refl _⟩) hD hS hA (fun H locs hP hD hS => ?_)
          refine lv_iconst (v := 1) hx hb d_SlippedStreamsModel_moveValue_57 (by decide) ?_
          refine lv_icmp_ne (tgt := 70) hx hb d_SlippedStreamsModel_moveValue_58 (by decide) (fun hc => ?_) (fun hc => ?_)
          · replace h := if_f hc h
            refine lv_iload_n hx hb d_SlippedStreamsModel_moveValue_70 rfl (lv_at hl 0 rfl) ?_
            refine lv_iconst (v := 1) hx hb d_SlippedStreamsModel_moveValue_71 (by decide) ?_
            refine lv_iadd hx hb d_SlippedStreamsModel_moveValue_72 ?_
            exact jp_73 z8 (z0.2 6 (1 : Int32).toNatClampNeg) 1 ((z0.2 6 (1 : Int32).toNatClampNeg) + 1) _ _ _ h hP hD hS (lv_sub hl [1, 0] rfl)
          · replace h := if_t hc h
            refine lv_aload_n hx hb d_SlippedStreamsModel_moveValue_61 rfl (lv_at hl 1 rfl) ?_
            refine mg_0_cs hx hb hts hin_SlippedStreamsModel hown hK hP (hts _ k_817) (fun _ h9 => h9) d_SlippedStreamsModel_moveValue_62 ?_
            refine lv_iload_n hx hb d_SlippedStreamsModel_moveValue_65 rfl (lv_at hl 0 rfl) ?_
            obtain ⟨hi, h⟩ := gin_e h
            refine ml_3 hx hb hK hP hi d_SlippedStreamsModel_moveValue_66 ?_
            refine lv_goto (tgt := 73) hx hb d_SlippedStreamsModel_moveValue_67 (by decide) ?_
            exact jp_73 z8 (z0.2 6 (1 : Int32).toNatClampNeg) 1 (z8.2 3 (z0.2 6 (1 : Int32).toNatClampNeg).toNatClampNeg) _ _ _ h hP hD hS (lv_sub hl [1, 0] rfl)
        · replace h := if_t hc h
          refine lv_iconst (v := 0) hx hb d_SlippedStreamsModel_moveValue_48 (by decide) ?_
          exact q_zret hx hb hr hlocks h hP hD hS d_SlippedStreamsModel_moveValue_49
      · replace h := if_t hc h
        refine lv_aload_n hx hb d_SlippedStreamsModel_moveValue_33 rfl (lv_at hl 1 rfl) ?_
        refine lv_iload_n hx hb d_SlippedStreamsModel_moveValue_34 rfl (lv_at hl 0 rfl) ?_
        obtain ⟨r9, z9, hc9, h⟩ := obn_e h
        refine q_goi (va_runV (As := [.int (z0.2 6 (1 : Int32).toNatClampNeg)]) (rest := []) ⟨hx, hb, hml, hown, hts⟩ (c_m_give l dC dI cI cZ ad z7 (z0.2 6 (1 : Int32).toNatClampNeg) _ hc9 _) (cwV 1 hts (q_goodL _ (q_l4 k_1015 k_1017 k_47 k_64) k_1018) rfl rfl rfl (by decide +kernel) ⟨Nat.le_of_ble_eq_true rfl, Nat.le_of_ble_eq_true rfl⟩) (q_preV qok hKK hP hD (va_recv (ci := 9) (q0 := 0) hK hP rfl rfl)) rfl rfl hl.1 rfl (lv_room (Nat.le_of_ble_eq_true rfl)) d_SlippedStreamsModel_moveValue_35 ⟨Nat.le_refl _, Nat.le_refl _⟩) hD hS hA (fun H locs hP hD hS => ?_)
        exact q_zret hx hb hr hlocks h hP hD hS d_SlippedStreamsModel_moveValue_38
  · replace h := if_f hc h
    refine lv_iconst (v := 0) hx hb d_SlippedStreamsModel_moveValue_15 (by decide) ?_
    exact q_zret hx hb hr hlocks h hP hD hS d_SlippedStreamsModel_moveValue_16
def m_value_g0 (k : Nat → ST → Int32 → Int32 → OR) (z0 : ST) (y1 y2 : Int32) : OR := obn (m_isCount z0 y1) (fun r1 z1 => if r1 = 0 then (some ((-1), z1)) else (k 1 z1 y1 0))
def m_value_g11 (k : Nat → ST → Int32 → Int32 → OR) (z0 : ST) (y1 y2 : Int32) : OR := if y1 ≤ y2 then (some (y2, z0)) else (obn (m_moveValue z0) (fun r2 z2 => if r2 = 0 then (some (y2, z2)) else (k 1 z2 y1 (y2 + 1))))
def m_value_g (k : Nat → ST → Int32 → Int32 → OR) (n : Nat) : ST → Int32 → Int32 → OR := match n with
  | 0 => m_value_g0 k
  | 1 => m_value_g11 k
  | _ => fun _ _ _ => none
def m_value_f : Nat → Nat → ST → Int32 → Int32 → OR
  | 0 => fun _ _ _ _ => none
  | n + 1 => m_value_g (m_value_f n)
def m_value (z0 : ST) (x1 : Int32) : OR := m_value_f 4000 0 z0 x1 0
set_option maxRecDepth 100000 in
set_option maxHeartbeats 4000000 in
theorem c_m_value (l : Launch) (dC : Nat → ClassId) (dI : Nat → Nat → Nat) (cI cZ : ClassId) (ad : Nat → Nat) (z0 : ST) (x1 : Int32) (R : Int32 × ST) (h : m_value z0 x1 = some R) : qMi l y_SlippedStreamsModel_value w_SlippedStreamsModel_value 9 203 (KX dC dI cI cZ) (dC, dI) q_cl (wM cI cZ ad) [.ref (ad 0), .int x1] z0 R := by
  intro sz
  refine Met.ofW (cc := b_SlippedStreamsModel_value) (maxL := 3) (ret := (some .int)) (by decide) rfl ?_
  intro p e s m args below meth c s₁ B hml hv
  obtain ⟨rfl, hsz, hP, hKK, hD0⟩ := hv
  have hx := B.exec
  have hb := B.bytes
  have hr := B.returns
  have hts : ∀ w ∈ q_big, w.before _ s = true := fun w h => atoms_spec (ws := w_SlippedStreamsModel_value) B.pre w (List.mem_cons_of_mem _ h)
  have hown : s.vm.findClass "SlippedStreamsModel" = some m.cls := findClass_of_methodNamed B.named
  have hlocks := B.notSynchronized
  subst hsz
  have hD := hD0.self (sz := s.heap.size)
  generalize hAe : va_A (wM cI cZ ad z0) s.heap.size = A at hD ⊢
  have hA : ∀ q : Nat, s.heap.size ≤ q → A q := fun q h => by rw [← hAe]; exact Or.inr h
  have hS : va_S A s.heap s.heap [] := va_S.rf
  have hK := hKK.1
  have hl := lv_entry ([.ref (ad 0), .int x1]) (n := 3) (Nat.le_of_ble_eq_true rfl)
  rw [lg_entry_eq]
  generalize (lg_sl ([.ref (ad 0), .int x1]) ++ List.replicate (3 - (lg_sl ([.ref (ad 0), .int x1])).length) Slot.unset).toArray = ls at hl ⊢
  have hl : lv_has ls 3 [(0, .ref (ad 0)), (1, .int x1)] := hl
  have key : ∀ n : Nat, (∀ (z0 : ST) (y1 y2 : Int32) (H : Heap) (locs : List Loc) (ls : Array Slot), m_value_f n 0 z0 y1 y2 = some R → va_P (dC, dI) q_cl (wM cI cZ ad z0) H → va_D A (wM cI cZ ad z0) → va_S A s.heap H locs → lv_has ls 3 [(0, .ref (ad 0)), (1, .int y1)] → qWi p l e w_SlippedStreamsModel_value 9 203 s m [.ref (ad 0), .int x1] below meth c (dC, dI) q_cl (wM cI cZ ad) A R H locs (F0 m 0 ls [])) ∧ (∀ (z0 : ST) (y1 y2 : Int32) (H : Heap) (locs : List Loc) (ls : Array Slot), m_value_f n 1 z0 y1 y2 = some R → va_P (dC, dI) q_cl (wM cI cZ ad z0) H → va_D A (wM cI cZ ad z0) → va_S A s.heap H locs → lv_has ls 3 [(0, .ref (ad 0)), (1, .int y1), (2, .int y2)] → qWi p l e w_SlippedStreamsModel_value 9 203 s m [.ref (ad 0), .int x1] below meth c (dC, dI) q_cl (wM cI cZ ad) A R H locs (F0 m 11 ls [])) := by
    intro n
    induction n with
    | zero => exact ⟨fun z0 y1 y2 H locs ls h hP hD hS hl => (by cases h), fun z0 y1 y2 H locs ls h hP hD hS hl => (by cases h)⟩
    | succ n ih =>
      obtain ⟨jp_0, jp_11⟩ := ih
      refine ⟨?_, ?_⟩
      · intro z0 y1 y2 H locs ls h hP hD hS hl
        replace h : m_value_g0 (m_value_f n) z0 y1 y2 = some R := h
        unfold m_value_g0 at h
        refine lv_iload_n hx hb d_SlippedStreamsModel_value_0 rfl (lv_at hl 1 rfl) ?_
        obtain ⟨r1, z1, hc1, h⟩ := obn_e h
        refine q_goi (va_runS (As := [.int y1]) (rest := []) ⟨hx, hb, hml, hown, hts⟩ (c_m_isCount l dC dI cI cZ ad z0 y1 _ hc1 _) (va_cwS 1 hts (q_goodL _ (q_l3 k_954 k_955 k_64) k_956) rfl rfl rfl (by decide +kernel) ⟨Nat.le_of_ble_eq_true rfl, Nat.le_of_ble_eq_true rfl⟩) (q_preS qok hKK hP hD) rfl rfl hl.1 rfl (lv_room (Nat.le_of_ble_eq_true rfl)) d_SlippedStreamsModel_value_1 ⟨Nat.le_refl _, Nat.le_refl _⟩) hD hS hA (fun H locs hP hD hS => ?_)
        refine lv_if_ne (tgt := 9) hx hb d_SlippedStreamsModel_value_4 (by decide) (fun hc => ?_) (fun hc => ?_)
        · replace h := if_f hc h
          refine lv_iconst (v := 0) hx hb d_SlippedStreamsModel_value_9 (by decide) ?_
          refine lv_istore_n (lv' := [(2, .int 0), (0, .ref (ad 0)), (1, .int y1)]) hx hb d_SlippedStreamsModel_value_10 rfl hl (by decide) rfl (fun ls hl => ?_)
          exact jp_11 z1 y1 0 _ _ _ h hP hD hS (lv_sub hl [1, 2, 0] rfl)
        · replace h := if_t hc h
          refine lv_iconst (v := (-1)) hx hb d_SlippedStreamsModel_value_7 (by decide) ?_
          exact q_iret hx hb hr hlocks h hP hD hS d_SlippedStreamsModel_value_8
      · intro z0 y1 y2 H locs ls h hP hD hS hl
        replace h : m_value_g11 (m_value_f n) z0 y1 y2 = some R := h
        unfold m_value_g11 at h
        refine lv_iload_n hx hb d_SlippedStreamsModel_value_11 rfl (lv_at hl 2 rfl) ?_
        refine lv_iload_n hx hb d_SlippedStreamsModel_value_12 rfl (lv_at hl 1 rfl) ?_
        refine lv_icmp_ge (tgt := 30) hx hb d_SlippedStreamsModel_value_13 (by decide) (fun hc => ?_) (fun hc => ?_)
        · replace h := if_t hc h
          refine lv_iload_n hx hb d_SlippedStreamsModel_value_30 rfl (lv_at hl 2 rfl) ?_
          exact q_iret hx hb hr hlocks h hP hD hS d_SlippedStreamsModel_value_31
        · replace h := if_f hc h
          refine lv_aload_n hx hb d_SlippedStreamsModel_value_16 rfl (lv_at hl 0 rfl) ?_
          obtain ⟨r2, z2, hc2, h⟩ := obn_e h
          refine q_goi (va_runV (As := []) (rest := []) ⟨hx, hb, hml, hown, hts⟩ (c_m_moveValue l dC dI cI cZ ad z0 _ hc2 _) (cwV 0 hts (q_goodL _ (q_l4 k_1011 k_1013 k_46 k_64) k_1014) rfl rfl rfl (by decide +kernel) ⟨Nat.le_of_ble_eq_true rfl, Nat.le_of_ble_eq_true rfl⟩) (q_preV qok hKK hP hD (va_recv (ci := 9) (q0 := 0) hK hP rfl rfl)) rfl rfl hl.1 rfl (lv_room (Nat.le_of_ble_eq_true rfl)) d_SlippedStreamsModel_value_17 ⟨Nat.le_refl _, Nat.le_refl _⟩) hD hS hA (fun H locs hP hD hS => ?_)
          refine lv_if_eq (tgt := 30) hx hb d_SlippedStreamsModel_value_20 (by decide) (fun hc => ?_) (fun hc => ?_)
          · replace h := if_t hc h
            refine lv_iload_n hx hb d_SlippedStreamsModel_value_30 rfl (lv_at hl 2 rfl) ?_
            exact q_iret hx hb hr hlocks h hP hD hS d_SlippedStreamsModel_value_31
          · replace h := if_f hc h
            refine lv_iload_n hx hb d_SlippedStreamsModel_value_23 rfl (lv_at hl 2 rfl) ?_
            refine lv_iconst (v := 1) hx hb d_SlippedStreamsModel_value_24 (by decide) ?_
            refine lv_iadd hx hb d_SlippedStreamsModel_value_25 ?_
            refine lv_istore_n (lv' := [(2, .int (y2 + 1)), (0, .ref (ad 0)), (1, .int y1)]) hx hb d_SlippedStreamsModel_value_26 rfl hl (by decide) rfl (fun ls hl => ?_)
            refine lv_goto (tgt := 11) hx hb d_SlippedStreamsModel_value_27 (by decide) ?_
            exact jp_11 z2 y1 (y2 + 1) _ _ _ h hP hD hS (lv_sub hl [1, 2, 0] rfl)
  exact (key 4000).1 z0 x1 0 _ _ _ h hP hD hS (lv_sub hl [0, 1] rfl)
def m_both_g0 (k : Nat → ST → Int32 → Int32 → Int32 → Int32 → OR) (z0 : ST) (y1 y2 y3 y4 : Int32) : OR := obn (m_isCount z0 y1) (fun r1 z1 => if r1 = 0 then (some ((-1), z1)) else (k 1 z1 y1 0 0 0))
def m_both_g13 (k : Nat → ST → Int32 → Int32 → Int32 → Int32 → OR) (z0 : ST) (y1 y2 y3 y4 : Int32) : OR := if y1 ≤ y3 then (some (y2, z0)) else (obn (m_moveAddress z0) (fun r2 z2 => if r2 = 0 then (k 2 z2 y1 y2 y3 y2) else (k 2 z2 y1 y2 y3 (y2 + 1))))
def m_both_g32 (k : Nat → ST → Int32 → Int32 → Int32 → Int32 → OR) (z0 : ST) (y1 y2 y3 y4 : Int32) : OR := if (z0.1 5) = 0 then (k 3 z0 y1 y4 y3 (z0.1 4)) else (k 3 z0 y1 y4 y3 ((z0.1 4) + 1))
def m_both_g54 (k : Nat → ST → Int32 → Int32 → Int32 → Int32 → OR) (z0 : ST) (y1 y2 y3 y4 : Int32) : OR := bnd (stI z0 4 y4) (fun z3 => obn (m_moveValue z3) (fun r4 z4 => if r4 = 0 then (k 4 z4 y1 y2 y3 y2) else (k 4 z4 y1 y2 y3 (y2 + 1))))
def m_both_g71 (k : Nat → ST → Int32 → Int32 → Int32 → Int32 → OR) (z0 : ST) (y1 y2 y3 y4 : Int32) : OR := k 1 z0 y1 y4 (y3 + 1) 0
def m_both_g (k : Nat → ST → Int32 → Int32 → Int32 → Int32 → OR) (n : Nat) : ST → Int32 → Int32 → Int32 → Int32 → OR := match n with
  | 0 => m_both_g0 k
  | 1 => m_both_g13 k
  | 2 => m_both_g32 k
  | 3 => m_both_g54 k
  | 4 => m_both_g71 k
  | _ => fun _ _ _ _ _ => none
def m_both_f : Nat → Nat → ST → Int32 → Int32 → Int32 → Int32 → OR
  | 0 => fun _ _ _ _ _ _ => none
  | n + 1 => m_both_g (m_both_f n)
def m_both (z0 : ST) (x1 : Int32) : OR := m_both_f 4000 0 z0 x1 0 0 0
set_option maxRecDepth 100000 in
set_option maxHeartbeats 4000000 in
theorem c_m_both (l : Launch) (dC : Nat → ClassId) (dI : Nat → Nat → Nat) (cI cZ : ClassId) (ad : Nat → Nat) (z0 : ST) (x1 : Int32) (R : Int32 × ST) (h : m_both z0 x1 = some R) : qMi l y_SlippedStreamsModel_both w_SlippedStreamsModel_both 9 203 (KX dC dI cI cZ) (dC, dI) q_cl (wM cI cZ ad) [.ref (ad 0), .int x1] z0 R := by
  intro sz
  refine Met.ofW (cc := b_SlippedStreamsModel_both) (maxL := 4) (ret := (some .int)) (by decide) rfl ?_
  intro p e s m args below meth c s₁ B hml hv
  obtain ⟨rfl, hsz, hP, hKK, hD0⟩ := hv
  have hx := B.exec
  have hb := B.bytes
  have hr := B.returns
  have hts : ∀ w ∈ q_big, w.before _ s = true := fun w h => atoms_spec (ws := w_SlippedStreamsModel_both) B.pre w (List.mem_cons_of_mem _ h)
  have hown : s.vm.findClass "SlippedStreamsModel" = some m.cls := findClass_of_methodNamed B.named
  have hlocks := B.notSynchronized
  subst hsz
  have hD := hD0.self (sz := s.heap.size)
  generalize hAe : va_A (wM cI cZ ad z0) s.heap.size = A at hD ⊢
  have hA : ∀ q : Nat, s.heap.size ≤ q → A q := fun q h => by rw [← hAe]; exact Or.inr h
  have hS : va_S A s.heap s.heap [] := va_S.rf
  have hK := hKK.1
  have hl := lv_entry ([.ref (ad 0), .int x1]) (n := 4) (Nat.le_of_ble_eq_true rfl)
  rw [lg_entry_eq]
  generalize (lg_sl ([.ref (ad 0), .int x1]) ++ List.replicate (4 - (lg_sl ([.ref (ad 0), .int x1])).length) Slot.unset).toArray = ls at hl ⊢
  have hl : lv_has ls 4 [(0, .ref (ad 0)), (1, .int x1)] := hl
  have key : ∀ n : Nat, (∀ (z0 : ST) (y1 y2 y3 y4 : Int32) (H : Heap) (locs : List Loc) (ls : Array Slot), m_both_f n 0 z0 y1 y2 y3 y4 = some R → va_P (dC, dI) q_cl (wM cI cZ ad z0) H → va_D A (wM cI cZ ad z0) → va_S A s.heap H locs → lv_has ls 4 [(0, .ref (ad 0)), (1, .int y1)] → qWi p l e w_SlippedStreamsModel_both 9 203 s m [.ref (ad 0), .int x1] below meth c (dC, dI) q_cl (wM cI cZ ad) A R H locs (F0 m 0 ls [])) ∧ (∀ (z0 : ST) (y1 y2 y3 y4 : Int32) (H : Heap) (locs : List Loc) (ls : Array Slot), m_both_f n 1 z0 y1 y2 y3 y4 = some R → va_P (dC, dI) q_cl (wM cI cZ ad z0) H → va_D A (wM cI cZ ad z0) → va_S A s.heap H locs → lv_has ls 4 [(0, .ref (ad 0)), (1, .int y1), (2, .int y2), (3, .int y3)] → qWi p l e w_SlippedStreamsModel_both 9 203 s m [.ref (ad 0), .int x1] below meth c (dC, dI) q_cl (wM cI cZ ad) A R H locs (F0 m 13 ls [])) ∧ (∀ (z0 : ST) (y1 y2 y3 y4 : Int32) (H : Heap) (locs : List Loc) (ls : Array Slot), m_both_f n 2 z0 y1 y2 y3 y4 = some R → va_P (dC, dI) q_cl (wM cI cZ ad z0) H → va_D A (wM cI cZ ad z0) → va_S A s.heap H locs → lv_has ls 4 [(0, .ref (ad 0)), (1, .int y1), (2, .int y2), (3, .int y3)] → qWi p l e w_SlippedStreamsModel_both 9 203 s m [.ref (ad 0), .int x1] below meth c (dC, dI) q_cl (wM cI cZ ad) A R H locs (F0 m 32 ls [.int y4])) ∧ (∀ (z0 : ST) (y1 y2 y3 y4 : Int32) (H : Heap) (locs : List Loc) (ls : Array Slot), m_both_f n 3 z0 y1 y2 y3 y4 = some R → va_P (dC, dI) q_cl (wM cI cZ ad z0) H → va_D A (wM cI cZ ad z0) → va_S A s.heap H locs → lv_has ls 4 [(0, .ref (ad 0)), (1, .int y1), (2, .int y2), (3, .int y3)] → qWi p l e w_SlippedStreamsModel_both 9 203 s m [.ref (ad 0), .int x1] below meth c (dC, dI) q_cl (wM cI cZ ad) A R H locs (F0 m 54 ls [.int y4, .ref (ad 0)])) ∧ (∀ (z0 : ST) (y1 y2 y3 y4 : Int32) (H : Heap) (locs : List Loc) (ls : Array Slot), m_both_f n 4 z0 y1 y2 y3 y4 = some R → va_P (dC, dI) q_cl (wM cI cZ ad z0) H → va_D A (wM cI cZ ad z0) → va_S A s.heap H locs → lv_has ls 4 [(0, .ref (ad 0)), (1, .int y1), (2, .int y2), (3, .int y3)] → qWi p l e w_SlippedStreamsModel_both 9 203 s m [.ref (ad 0), .int x1] below meth c (dC, dI) q_cl (wM cI cZ ad) A R H locs (F0 m 71 ls [.int y4])) := by
    intro n
    induction n with
    | zero => exact ⟨fun z0 y1 y2 y3 y4 H locs ls h hP hD hS hl => (by cases h), fun z0 y1 y2 y3 y4 H locs ls h hP hD hS hl => (by cases h), fun z0 y1 y2 y3 y4 H locs ls h hP hD hS hl => (by cases h), fun z0 y1 y2 y3 y4 H locs ls h hP hD hS hl => (by cases h), fun z0 y1 y2 y3 y4 H locs ls h hP hD hS hl => (by cases h)⟩
    | succ n ih =>
      obtain ⟨jp_0, jp_13, jp_32, jp_54, jp_71⟩ := ih
      refine ⟨?_, ?_, ?_, ?_, ?_⟩
      · intro z0 y1 y2 y3 y4 H locs ls h hP hD hS hl
        replace h : m_both_g0 (m_both_f n) z0 y1 y2 y3 y4 = some R := h
        unfold m_both_g0 at h
        refine lv_iload_n hx hb d_SlippedStreamsModel_both_0 rfl (lv_at hl 1 rfl) ?_
        obtain ⟨r1, z1, hc1, h⟩ := obn_e h
        refine q_goi (va_runS (As := [.int y1]) (rest := []) ⟨hx, hb, hml, hown, hts⟩ (c_m_isCount l dC dI cI cZ ad z0 y1 _ hc1 _) (va_cwS 1 hts (q_goodL _ (q_l3 k_954 k_955 k_64) k_956) rfl rfl rfl (by decide +kernel) ⟨Nat.le_of_ble_eq_true rfl, Nat.le_of_ble_eq_true rfl⟩) (q_preS qok hKK hP hD) rfl rfl hl.1 rfl (lv_room (Nat.le_of_ble_eq_true rfl)) d_SlippedStreamsModel_both_1 ⟨Nat.le_refl _, Nat.le_refl _⟩) hD hS hA (fun H locs hP hD hS => ?_)
        refine lv_if_ne (tgt := 9) hx hb d_SlippedStreamsModel_both_4 (by decide) (fun hc => ?_) (fun hc => ?_)
        · replace h := if_f hc h
          refine lv_iconst (v := 0) hx hb d_SlippedStreamsModel_both_9 (by decide) ?_
          refine lv_istore_n (lv' := [(2, .int 0), (0, .ref (ad 0)), (1, .int y1)]) hx hb d_SlippedStreamsModel_both_10 rfl hl (by decide) rfl (fun ls hl => ?_)
          refine lv_iconst (v := 0) hx hb d_SlippedStreamsModel_both_11 (by decide) ?_
          refine lv_istore_n (lv' := [(3, .int 0), (2, .int 0), (0, .ref (ad 0)), (1, .int y1)]) hx hb d_SlippedStreamsModel_both_12 rfl hl (by decide) rfl (fun ls hl => ?_)
          exact jp_13 z1 y1 0 0 0 _ _ _ h hP hD hS (lv_sub hl [2, 3, 1, 0] rfl)
        · replace h := if_t hc h
          refine lv_iconst (v := (-1)) hx hb d_SlippedStreamsModel_both_7 (by decide) ?_
          exact q_iret hx hb hr hlocks h hP hD hS d_SlippedStreamsModel_both_8
      · intro z0 y1 y2 y3 y4 H locs ls h hP hD hS hl
        replace h : m_both_g13 (m_both_f n) z0 y1 y2 y3 y4 = some R := h
        unfold m_both_g13 at h
        refine lv_iload_n hx hb d_SlippedStreamsModel_both_13 rfl (lv_at hl 3 rfl) ?_
        refine lv_iload_n hx hb d_SlippedStreamsModel_both_14 rfl (lv_at hl 1 rfl) ?_
        refine lv_icmp_ge (tgt := 78) hx hb d_SlippedStreamsModel_both_15 (by decide) (fun hc => ?_) (fun hc => ?_)
        · replace h := if_t hc h
          refine lv_iload_n hx hb d_SlippedStreamsModel_both_78 rfl (lv_at hl 2 rfl) ?_
          exact q_iret hx hb hr hlocks h hP hD hS d_SlippedStreamsModel_both_79
        · replace h := if_f hc h
          refine lv_aload_n hx hb d_SlippedStreamsModel_both_18 rfl (lv_at hl 0 rfl) ?_
          obtain ⟨r2, z2, hc2, h⟩ := obn_e h
          refine q_goi (va_runV (As := []) (rest := []) ⟨hx, hb, hml, hown, hts⟩ (c_m_moveAddress l dC dI cI cZ ad z0 _ hc2 _) (cwV 0 hts (q_goodL _ (q_l4 k_957 k_959 k_35 k_64) k_960) rfl rfl rfl (by decide +kernel) ⟨Nat.le_of_ble_eq_true rfl, Nat.le_of_ble_eq_true rfl⟩) (q_preV qok hKK hP hD (va_recv (ci := 9) (q0 := 0) hK hP rfl rfl)) rfl rfl hl.1 rfl (lv_room (Nat.le_of_ble_eq_true rfl)) d_SlippedStreamsModel_both_19 ⟨Nat.le_refl _, Nat.le_refl _⟩) hD hS hA (fun H locs hP hD hS => ?_)
          refine lv_if_eq (tgt := 31) hx hb d_SlippedStreamsModel_both_22 (by decide) (fun hc => ?_) (fun hc => ?_)
          · replace h := if_t hc h
            refine lv_iload_n hx hb d_SlippedStreamsModel_both_31 rfl (lv_at hl 2 rfl) ?_
            exact jp_32 z2 y1 y2 y3 y2 _ _ _ h hP hD hS (lv_sub hl [0, 1, 2, 3] rfl)
          · replace h := if_f hc h
            refine lv_iload_n hx hb d_SlippedStreamsModel_both_25 rfl (lv_at hl 2 rfl) ?_
            refine lv_iconst (v := 1) hx hb d_SlippedStreamsModel_both_26 (by decide) ?_
            refine lv_iadd hx hb d_SlippedStreamsModel_both_27 ?_
            refine lv_goto (tgt := 32) hx hb d_SlippedStreamsModel_both_28 (by decide) ?_
            exact jp_32 z2 y1 y2 y3 (y2 + 1) _ _ _ h hP hD hS (lv_sub hl [0, 1, 2, 3] rfl)
      · intro z0 y1 y2 y3 y4 H locs ls h hP hD hS hl
        replace h : m_both_g32 (m_both_f n) z0 y1 y2 y3 y4 = some R := h
        unfold m_both_g32 at h
        refine lv_istore_n (lv' := [(2, .int y4), (0, .ref (ad 0)), (1, .int y1), (3, .int y3)]) hx hb d_SlippedStreamsModel_both_32 rfl hl (by decide) rfl (fun ls hl => ?_)
        refine lv_aload_n hx hb d_SlippedStreamsModel_both_33 rfl (lv_at hl 1 rfl) ?_
        refine lv_aload_n hx hb d_SlippedStreamsModel_both_34 rfl (lv_at hl 1 rfl) ?_
        refine mg_0_starved hx hb hts hin_SlippedStreamsModel hown hK hP (hts _ k_827) (fun _ h9 => h9) d_SlippedStreamsModel_both_35 ?_
        refine lv_if_eq (tgt := 50) hx hb d_SlippedStreamsModel_both_38 (by decide) (fun hc => ?_) (fun hc => ?_)
        · replace h := if_t hc h
          refine lv_aload_n hx hb d_SlippedStreamsModel_both_50 rfl (lv_at hl 1 rfl) ?_
          refine mg_0_lost hx hb hts hin_SlippedStreamsModel hown hK hP (hts _ k_826) (fun _ h9 => h9) d_SlippedStreamsModel_both_51 ?_
          exact jp_54 z0 y1 y4 y3 (z0.1 4) _ _ _ h hP hD hS (lv_sub hl [1, 2, 0, 3] rfl)
        · replace h := if_f hc h
          refine lv_aload_n hx hb d_SlippedStreamsModel_both_41 rfl (lv_at hl 1 rfl) ?_
          refine mg_0_lost hx hb hts hin_SlippedStreamsModel hown hK hP (hts _ k_826) (fun _ h9 => h9) d_SlippedStreamsModel_both_42 ?_
          refine lv_iconst (v := 1) hx hb d_SlippedStreamsModel_both_45 (by decide) ?_
          refine lv_iadd hx hb d_SlippedStreamsModel_both_46 ?_
          refine lv_goto (tgt := 54) hx hb d_SlippedStreamsModel_both_47 (by decide) ?_
          exact jp_54 z0 y1 y4 y3 ((z0.1 4) + 1) _ _ _ h hP hD hS (lv_sub hl [1, 2, 0, 3] rfl)
      · intro z0 y1 y2 y3 y4 H locs ls h hP hD hS hl
        replace h : m_both_g54 (m_both_f n) z0 y1 y2 y3 y4 = some R := h
        unfold m_both_g54 at h
        obtain ⟨z3, e3, h⟩ := bnd_e h
        refine mp_0_lost hx hb hts hin_SlippedStreamsModel hown hK hP hD hS (hts _ k_826) (fun _ h9 => h9) d_SlippedStreamsModel_both_54 e3 (fun H locs hP hD hS => ?_)
        refine lv_aload_n hx hb d_SlippedStreamsModel_both_57 rfl (lv_at hl 0 rfl) ?_
        obtain ⟨r4, z4, hc4, h⟩ := obn_e h
        refine q_goi (va_runV (As := []) (rest := []) ⟨hx, hb, hml, hown, hts⟩ (c_m_moveValue l dC dI cI cZ ad z3 _ hc4 _) (cwV 0 hts (q_goodL _ (q_l4 k_1011 k_1013 k_46 k_64) k_1014) rfl rfl rfl (by decide +kernel) ⟨Nat.le_of_ble_eq_true rfl, Nat.le_of_ble_eq_true rfl⟩) (q_preV qok hKK hP hD (va_recv (ci := 9) (q0 := 0) hK hP rfl rfl)) rfl rfl hl.1 rfl (lv_room (Nat.le_of_ble_eq_true rfl)) d_SlippedStreamsModel_both_58 ⟨Nat.le_refl _, Nat.le_refl _⟩) hD hS hA (fun H locs hP hD hS => ?_)
        refine lv_if_eq (tgt := 70) hx hb d_SlippedStreamsModel_both_61 (by decide) (fun hc => ?_) (fun hc => ?_)
        · replace h := if_t hc h
          refine lv_iload_n hx hb d_SlippedStreamsModel_both_70 rfl (lv_at hl 2 rfl) ?_
          exact jp_71 z4 y1 y2 y3 y2 _ _ _ h hP hD hS (lv_sub hl [0, 1, 2, 3] rfl)
        · replace h := if_f hc h
          refine lv_iload_n hx hb d_SlippedStreamsModel_both_64 rfl (lv_at hl 2 rfl) ?_
          refine lv_iconst (v := 1) hx hb d_SlippedStreamsModel_both_65 (by decide) ?_
          refine lv_iadd hx hb d_SlippedStreamsModel_both_66 ?_
          refine lv_goto (tgt := 71) hx hb d_SlippedStreamsModel_both_67 (by decide) ?_
          exact jp_71 z4 y1 y2 y3 (y2 + 1) _ _ _ h hP hD hS (lv_sub hl [0, 1, 2, 3] rfl)
      · intro z0 y1 y2 y3 y4 H locs ls h hP hD hS hl
        replace h : m_both_g71 (m_both_f n) z0 y1 y2 y3 y4 = some R := h
        unfold m_both_g71 at h
        refine lv_istore_n (lv' := [(2, .int y4), (0, .ref (ad 0)), (1, .int y1), (3, .int y3)]) hx hb d_SlippedStreamsModel_both_71 rfl hl (by decide) rfl (fun ls hl => ?_)
        refine lv_iinc (k := 3) (v := y3 + 1) (lv' := [(3, .int (y3 + 1)), (2, .int y4), (0, .ref (ad 0)), (1, .int y1)]) hx hb d_SlippedStreamsModel_both_72 hl rfl rfl (by decide) rfl (fun ls hl => ?_)
        refine lv_goto (tgt := 13) hx hb d_SlippedStreamsModel_both_75 (by decide) ?_
        exact jp_13 z0 y1 y4 (y3 + 1) 0 _ _ _ h hP hD hS (lv_sub hl [2, 3, 1, 0] rfl)
  exact (key 4000).1 z0 x1 0 0 0 _ _ _ h hP hD hS (lv_sub hl [0, 1] rfl)
def m_place_22 (z0 : ST) (y1 y2 : Int32) : OR := if (z0.1 0) ≤ y2 then (some (z0.1 0, z0)) else (some (y2, z0))
def m_place_9 (z0 : ST) (y1 : Int32) : OR := gin y1 2 (m_place_22 z0 y1 (z0.2 6 y1.toNatClampNeg))
def m_place (z0 : ST) (x1 : Int32) : OR := if x1 = 0 then (m_place_9 z0 x1) else (if x1 = 1 then (m_place_9 z0 x1) else (m_place_22 z0 x1 (z0.1 7)))
set_option maxRecDepth 100000 in
set_option maxHeartbeats 4000000 in
theorem c_m_place (l : Launch) (dC : Nat → ClassId) (dI : Nat → Nat → Nat) (cI cZ : ClassId) (ad : Nat → Nat) (z0 : ST) (x1 : Int32) (R : Int32 × ST) (h : m_place z0 x1 = some R) : qMi l y_SlippedStreamsModel_place w_SlippedStreamsModel_place 0 0 (KX dC dI cI cZ) (dC, dI) q_cl (wM cI cZ ad) [.ref (ad 0), .int x1] z0 R := by
  intro sz
  refine Met.ofW (cc := b_SlippedStreamsModel_place) (maxL := 3) (ret := (some .int)) (by decide) rfl ?_
  intro p e s m args below meth c s₁ B hml hv
  obtain ⟨rfl, hsz, hP, hKK, hD0⟩ := hv
  have hx := B.exec
  have hb := B.bytes
  have hr := B.returns
  have hts : ∀ w ∈ q_big, w.before _ s = true := fun w h => atoms_spec (ws := w_SlippedStreamsModel_place) B.pre w (List.mem_cons_of_mem _ h)
  have hown : s.vm.findClass "SlippedStreamsModel" = some m.cls := findClass_of_methodNamed B.named
  have hlocks := B.notSynchronized
  subst hsz
  have hD := hD0.self (sz := s.heap.size)
  generalize hAe : va_A (wM cI cZ ad z0) s.heap.size = A at hD ⊢
  have hA : ∀ q : Nat, s.heap.size ≤ q → A q := fun q h => by rw [← hAe]; exact Or.inr h
  have hS : va_S A s.heap s.heap [] := va_S.rf
  have hK := hKK.1
  have hl := lv_entry ([.ref (ad 0), .int x1]) (n := 3) (Nat.le_of_ble_eq_true rfl)
  rw [lg_entry_eq]
  generalize (lg_sl ([.ref (ad 0), .int x1]) ++ List.replicate (3 - (lg_sl ([.ref (ad 0), .int x1])).length) Slot.unset).toArray = ls at hl ⊢
  have hl : lv_has ls 3 [(0, .ref (ad 0)), (1, .int x1)] := hl
  have jp_22 : ∀ (z0 : ST) (y1 y2 : Int32) (H : Heap) (locs : List Loc) (ls : Array Slot), m_place_22 z0 y1 y2 = some R → va_P (dC, dI) q_cl (wM cI cZ ad z0) H → va_D A (wM cI cZ ad z0) → va_S A s.heap H locs → lv_has ls 3 [(0, .ref (ad 0)), (1, .int y1)] → qWi p l e w_SlippedStreamsModel_place 0 0 s m [.ref (ad 0), .int x1] below meth c (dC, dI) q_cl (wM cI cZ ad) A R H locs (F0 m 22 ls [.int y2]) := by
    intro z0 y1 y2 H locs ls h hP hD hS hl
    unfold m_place_22 at h
    refine lv_istore_n (lv' := [(2, .int y2), (0, .ref (ad 0)), (1, .int y1)]) hx hb d_SlippedStreamsModel_place_22 rfl hl (by decide) rfl (fun ls hl => ?_)
    refine lv_iload_n hx hb d_SlippedStreamsModel_place_23 rfl (lv_at hl 0 rfl) ?_
    refine lv_aload_n hx hb d_SlippedStreamsModel_place_24 rfl (lv_at hl 1 rfl) ?_
    refine mg_0_count hx hb hts hin_SlippedStreamsModel hown hK hP (hts _ k_813) (fun _ h9 => h9) d_SlippedStreamsModel_place_25 ?_
    refine lv_icmp_ge (tgt := 35) hx hb d_SlippedStreamsModel_place_28 (by decide) (fun hc => ?_) (fun hc => ?_)
    · replace h := if_t hc h
      refine lv_aload_n hx hb d_SlippedStreamsModel_place_35 rfl (lv_at hl 1 rfl) ?_
      refine mg_0_count hx hb hts hin_SlippedStreamsModel hown hK hP (hts _ k_813) (fun _ h9 => h9) d_SlippedStreamsModel_place_36 ?_
      exact q_iret hx hb hr hlocks h hP hD hS d_SlippedStreamsModel_place_39
    · replace h := if_f hc h
      refine lv_iload_n hx hb d_SlippedStreamsModel_place_31 rfl (lv_at hl 0 rfl) ?_
      refine lv_goto (tgt := 39) hx hb d_SlippedStreamsModel_place_32 (by decide) ?_
      exact q_iret hx hb hr hlocks h hP hD hS d_SlippedStreamsModel_place_39
  have jp_9 : ∀ (z0 : ST) (y1 : Int32) (H : Heap) (locs : List Loc) (ls : Array Slot), m_place_9 z0 y1 = some R → va_P (dC, dI) q_cl (wM cI cZ ad z0) H → va_D A (wM cI cZ ad z0) → va_S A s.heap H locs → lv_has ls 3 [(0, .ref (ad 0)), (1, .int y1)] → qWi p l e w_SlippedStreamsModel_place 0 0 s m [.ref (ad 0), .int x1] below meth c (dC, dI) q_cl (wM cI cZ ad) A R H locs (F0 m 9 ls []) := by
    intro z0 y1 H locs ls h hP hD hS hl
    unfold m_place_9 at h
    refine lv_aload_n hx hb d_SlippedStreamsModel_place_9 rfl (lv_at hl 0 rfl) ?_
    refine mg_0_places hx hb hts hin_SlippedStreamsModel hown hK hP (hts _ k_822) (fun _ h9 => h9) d_SlippedStreamsModel_place_10 ?_
    refine lv_iload_n hx hb d_SlippedStreamsModel_place_13 rfl (lv_at hl 1 rfl) ?_
    obtain ⟨hi, h⟩ := gin_e h
    refine ml_6 hx hb hK hP hi d_SlippedStreamsModel_place_14 ?_
    refine lv_goto (tgt := 22) hx hb d_SlippedStreamsModel_place_15 (by decide) ?_
    exact jp_22 z0 y1 (z0.2 6 y1.toNatClampNeg) _ _ _ h hP hD hS (lv_sub hl [0, 1] rfl)
  unfold m_place at h
  refine lv_iload_n hx hb d_SlippedStreamsModel_place_0 rfl (lv_at hl 1 rfl) ?_
  refine lv_if_eq (tgt := 9) hx hb d_SlippedStreamsModel_place_1 (by decide) (fun hc => ?_) (fun hc => ?_)
  · replace h := if_t hc h
    exact jp_9 z0 x1 _ _ _ h hP hD hS (lv_sub hl [0, 1] rfl)
  · replace h := if_f hc h
    refine lv_iload_n hx hb d_SlippedStreamsModel_place_4 rfl (lv_at hl 1 rfl) ?_
    refine lv_iconst (v := 1) hx hb d_SlippedStreamsModel_place_5 (by decide) ?_
    refine lv_icmp_ne (tgt := 18) hx hb d_SlippedStreamsModel_place_6 (by decide) (fun hc => ?_) (fun hc => ?_)
    · replace h := if_f hc h
      refine lv_aload_n hx hb d_SlippedStreamsModel_place_18 rfl (lv_at hl 0 rfl) ?_
      refine mg_0_plainPlace hx hb hts hin_SlippedStreamsModel hown hK hP (hts _ k_836) (fun _ h9 => h9) d_SlippedStreamsModel_place_19 ?_
      exact jp_22 z0 x1 (z0.1 7) _ _ _ h hP hD hS (lv_sub hl [0, 1] rfl)
    · replace h := if_t hc h
      exact jp_9 z0 x1 _ _ _ h hP hD hS (lv_sub hl [0, 1] rfl)
def m_slip (z0 : ST) : OR := gin 0 2 (gin 1 2 (some ((z0.2 7 (0 : Int32).toNatClampNeg) - (z0.2 7 (1 : Int32).toNatClampNeg), z0)))
set_option maxRecDepth 100000 in
set_option maxHeartbeats 4000000 in
theorem c_m_slip (l : Launch) (dC : Nat → ClassId) (dI : Nat → Nat → Nat) (cI cZ : ClassId) (ad : Nat → Nat) (z0 : ST) (R : Int32 × ST) (h : m_slip z0 = some R) : qMi l y_SlippedStreamsModel_slip w_SlippedStreamsModel_slip 0 0 (KX dC dI cI cZ) (dC, dI) q_cl (wM cI cZ ad) [.ref (ad 0)] z0 R := by
  intro sz
  refine Met.ofW (cc := b_SlippedStreamsModel_slip) (maxL := 1) (ret := (some .int)) (by decide) rfl ?_
  intro p e s m args below meth c s₁ B hml hv
  obtain ⟨rfl, hsz, hP, hKK, hD0⟩ := hv
  have hx := B.exec
  have hb := B.bytes
  have hr := B.returns
  have hts : ∀ w ∈ q_big, w.before _ s = true := fun w h => atoms_spec (ws := w_SlippedStreamsModel_slip) B.pre w (List.mem_cons_of_mem _ h)
  have hown : s.vm.findClass "SlippedStreamsModel" = some m.cls := findClass_of_methodNamed B.named
  have hlocks := B.notSynchronized
  subst hsz
  have hD := hD0.self (sz := s.heap.size)
  generalize hAe : va_A (wM cI cZ ad z0) s.heap.size = A at hD ⊢
  have hA : ∀ q : Nat, s.heap.size ≤ q → A q := fun q h => by rw [← hAe]; exact Or.inr h
  have hS : va_S A s.heap s.heap [] := va_S.rf
  have hK := hKK.1
  have hl := lv_entry ([.ref (ad 0)]) (n := 1) (Nat.le_of_ble_eq_true rfl)
  rw [lg_entry_eq]
  generalize (lg_sl ([.ref (ad 0)]) ++ List.replicate (1 - (lg_sl ([.ref (ad 0)])).length) Slot.unset).toArray = ls at hl ⊢
  have hl : lv_has ls 1 [(0, .ref (ad 0))] := hl
  unfold m_slip at h
  refine lv_aload_n hx hb d_SlippedStreamsModel_slip_0 rfl (lv_at hl 0 rfl) ?_
  refine mg_0_behind hx hb hts hin_SlippedStreamsModel hown hK hP (hts _ k_823) (fun _ h9 => h9) d_SlippedStreamsModel_slip_1 ?_
  refine lv_iconst (v := 0) hx hb d_SlippedStreamsModel_slip_4 (by decide) ?_
  obtain ⟨hi, h⟩ := gin_e h
  refine ml_7 hx hb hK hP hi d_SlippedStreamsModel_slip_5 ?_
  refine lv_aload_n hx hb d_SlippedStreamsModel_slip_6 rfl (lv_at hl 0 rfl) ?_
  refine mg_0_behind hx hb hts hin_SlippedStreamsModel hown hK hP (hts _ k_823) (fun _ h9 => h9) d_SlippedStreamsModel_slip_7 ?_
  refine lv_iconst (v := 1) hx hb d_SlippedStreamsModel_slip_10 (by decide) ?_
  obtain ⟨hi, h⟩ := gin_e h
  refine ml_7 hx hb hK hP hi d_SlippedStreamsModel_slip_11 ?_
  refine lv_isub hx hb d_SlippedStreamsModel_slip_12 ?_
  exact q_iret hx hb hr hlocks h hP hD hS d_SlippedStreamsModel_slip_13
def m_queue (z0 : ST) (x1 : Int32) : OR := if x1 < 0 then (some ((-1), z0)) else (if x1 ≤ 5 then (if x1 = 5 then (some (z0.1 6, z0)) else (gin x1 5 (some (z0.2 10 x1.toNatClampNeg, z0)))) else (some ((-1), z0)))
set_option maxRecDepth 100000 in
set_option maxHeartbeats 4000000 in
theorem c_m_queue (l : Launch) (dC : Nat → ClassId) (dI : Nat → Nat → Nat) (cI cZ : ClassId) (ad : Nat → Nat) (z0 : ST) (x1 : Int32) (R : Int32 × ST) (h : m_queue z0 x1 = some R) : qMi l y_SlippedStreamsModel_queue w_SlippedStreamsModel_queue 0 0 (KX dC dI cI cZ) (dC, dI) q_cl (wM cI cZ ad) [.ref (ad 0), .int x1] z0 R := by
  intro sz
  refine Met.ofW (cc := b_SlippedStreamsModel_queue) (maxL := 2) (ret := (some .int)) (by decide) rfl ?_
  intro p e s m args below meth c s₁ B hml hv
  obtain ⟨rfl, hsz, hP, hKK, hD0⟩ := hv
  have hx := B.exec
  have hb := B.bytes
  have hr := B.returns
  have hts : ∀ w ∈ q_big, w.before _ s = true := fun w h => atoms_spec (ws := w_SlippedStreamsModel_queue) B.pre w (List.mem_cons_of_mem _ h)
  have hown : s.vm.findClass "SlippedStreamsModel" = some m.cls := findClass_of_methodNamed B.named
  have hlocks := B.notSynchronized
  subst hsz
  have hD := hD0.self (sz := s.heap.size)
  generalize hAe : va_A (wM cI cZ ad z0) s.heap.size = A at hD ⊢
  have hA : ∀ q : Nat, s.heap.size ≤ q → A q := fun q h => by rw [← hAe]; exact Or.inr h
  have hS : va_S A s.heap s.heap [] := va_S.rf
  have hK := hKK.1
  have hl := lv_entry ([.ref (ad 0), .int x1]) (n := 2) (Nat.le_of_ble_eq_true rfl)
  rw [lg_entry_eq]
  generalize (lg_sl ([.ref (ad 0), .int x1]) ++ List.replicate (2 - (lg_sl ([.ref (ad 0), .int x1])).length) Slot.unset).toArray = ls at hl ⊢
  have hl : lv_has ls 2 [(0, .ref (ad 0)), (1, .int x1)] := hl
  unfold m_queue at h
  refine lv_iload_n hx hb d_SlippedStreamsModel_queue_0 rfl (lv_at hl 1 rfl) ?_
  refine lv_if_lt (tgt := 9) hx hb d_SlippedStreamsModel_queue_1 (by decide) (fun hc => ?_) (fun hc => ?_)
  · replace h := if_t hc h
    refine lv_iconst (v := (-1)) hx hb d_SlippedStreamsModel_queue_9 (by decide) ?_
    refine lv_goto (tgt := 31) hx hb d_SlippedStreamsModel_queue_10 (by decide) ?_
    exact q_iret hx hb hr hlocks h hP hD hS d_SlippedStreamsModel_queue_31
  · replace h := if_f hc h
    refine lv_iload_n hx hb d_SlippedStreamsModel_queue_4 rfl (lv_at hl 1 rfl) ?_
    refine lv_iconst (v := 5) hx hb d_SlippedStreamsModel_queue_5 (by decide) ?_
    refine lv_icmp_le (tgt := 13) hx hb d_SlippedStreamsModel_queue_6 (by decide) (fun hc => ?_) (fun hc => ?_)
    · replace h := if_t hc h
      refine lv_iload_n hx hb d_SlippedStreamsModel_queue_13 rfl (lv_at hl 1 rfl) ?_
      refine lv_iconst (v := 5) hx hb d_SlippedStreamsModel_queue_14 (by decide) ?_
      refine lv_icmp_ne (tgt := 25) hx hb d_SlippedStreamsModel_queue_15 (by decide) (fun hc => ?_) (fun hc => ?_)
      · replace h := if_f hc h
        refine lv_aload_n hx hb d_SlippedStreamsModel_queue_25 rfl (lv_at hl 0 rfl) ?_
        refine mg_0_lengths hx hb hts hin_SlippedStreamsModel hown hK hP (hts _ k_829) (fun _ h9 => h9) d_SlippedStreamsModel_queue_26 ?_
        refine lv_iload_n hx hb d_SlippedStreamsModel_queue_29 rfl (lv_at hl 1 rfl) ?_
        obtain ⟨hi, h⟩ := gin_e h
        refine ml_10 hx hb hK hP hi d_SlippedStreamsModel_queue_30 ?_
        exact q_iret hx hb hr hlocks h hP hD hS d_SlippedStreamsModel_queue_31
      · replace h := if_t hc h
        refine lv_aload_n hx hb d_SlippedStreamsModel_queue_18 rfl (lv_at hl 0 rfl) ?_
        refine mg_0_stores hx hb hts hin_SlippedStreamsModel hown hK hP (hts _ k_830) (fun _ h9 => h9) d_SlippedStreamsModel_queue_19 ?_
        refine lv_goto (tgt := 31) hx hb d_SlippedStreamsModel_queue_22 (by decide) ?_
        exact q_iret hx hb hr hlocks h hP hD hS d_SlippedStreamsModel_queue_31
    · replace h := if_f hc h
      refine lv_iconst (v := (-1)) hx hb d_SlippedStreamsModel_queue_9 (by decide) ?_
      refine lv_goto (tgt := 31) hx hb d_SlippedStreamsModel_queue_10 (by decide) ?_
      exact q_iret hx hb hr hlocks h hP hD hS d_SlippedStreamsModel_queue_31
def m_register (z0 : ST) (x1 x2 : Int32) : OR := obn (m_isRegister z0 x1) (fun r1 z1 => if r1 = 0 then (some (0, z1)) else (if x2 = 0 then (gin x1 8 (if (z1.2 4 x1.toNatClampNeg) = 0 then (gin (8 + x1) 16 (some (z1.2 5 (8 + x1).toNatClampNeg, z1))) else (gin x1 16 (some (z1.2 5 x1.toNatClampNeg, z1))))) else (gin x1 8 (some (z1.2 14 x1.toNatClampNeg, z1)))))
set_option maxRecDepth 100000 in
set_option maxHeartbeats 4000000 in
theorem c_m_register (l : Launch) (dC : Nat → ClassId) (dI : Nat → Nat → Nat) (cI cZ : ClassId) (ad : Nat → Nat) (z0 : ST) (x1 x2 : Int32) (R : Int32 × ST) (h : m_register z0 x1 x2 = some R) : qMi l y_SlippedStreamsModel_register w_SlippedStreamsModel_register 1 20 (KX dC dI cI cZ) (dC, dI) q_cl (wM cI cZ ad) [.ref (ad 0), .int x1, .int x2] z0 R := by
  intro sz
  refine Met.ofW (cc := b_SlippedStreamsModel_register) (maxL := 3) (ret := (some .int)) (by decide) rfl ?_
  intro p e s m args below meth c s₁ B hml hv
  obtain ⟨rfl, hsz, hP, hKK, hD0⟩ := hv
  have hx := B.exec
  have hb := B.bytes
  have hr := B.returns
  have hts : ∀ w ∈ q_big, w.before _ s = true := fun w h => atoms_spec (ws := w_SlippedStreamsModel_register) B.pre w (List.mem_cons_of_mem _ h)
  have hown : s.vm.findClass "SlippedStreamsModel" = some m.cls := findClass_of_methodNamed B.named
  have hlocks := B.notSynchronized
  subst hsz
  have hD := hD0.self (sz := s.heap.size)
  generalize hAe : va_A (wM cI cZ ad z0) s.heap.size = A at hD ⊢
  have hA : ∀ q : Nat, s.heap.size ≤ q → A q := fun q h => by rw [← hAe]; exact Or.inr h
  have hS : va_S A s.heap s.heap [] := va_S.rf
  have hK := hKK.1
  have hl := lv_entry ([.ref (ad 0), .int x1, .int x2]) (n := 3) (Nat.le_of_ble_eq_true rfl)
  rw [lg_entry_eq]
  generalize (lg_sl ([.ref (ad 0), .int x1, .int x2]) ++ List.replicate (3 - (lg_sl ([.ref (ad 0), .int x1, .int x2])).length) Slot.unset).toArray = ls at hl ⊢
  have hl : lv_has ls 3 [(0, .ref (ad 0)), (1, .int x1), (2, .int x2)] := hl
  unfold m_register at h
  refine lv_iload_n hx hb d_SlippedStreamsModel_register_0 rfl (lv_at hl 1 rfl) ?_
  obtain ⟨r1, z1, hc1, h⟩ := obn_e h
  refine q_goi (va_runS (As := [.int x1]) (rest := []) ⟨hx, hb, hml, hown, hts⟩ (c_m_isRegister l dC dI cI cZ ad z0 x1 _ hc1 _) (va_cwS 1 hts (q_goodL _ (q_l3 k_899 k_900 k_64) k_901) rfl rfl rfl (by decide +kernel) ⟨Nat.le_of_ble_eq_true rfl, Nat.le_of_ble_eq_true rfl⟩) (q_preS qok hKK hP hD) rfl rfl hl.1 rfl (lv_room (Nat.le_of_ble_eq_true rfl)) d_SlippedStreamsModel_register_1 ⟨Nat.le_refl _, Nat.le_refl _⟩) hD hS hA (fun H locs hP hD hS => ?_)
  refine lv_if_ne (tgt := 9) hx hb d_SlippedStreamsModel_register_4 (by decide) (fun hc => ?_) (fun hc => ?_)
  · replace h := if_f hc h
    refine lv_iload_n hx hb d_SlippedStreamsModel_register_9 rfl (lv_at hl 2 rfl) ?_
    refine lv_if_eq (tgt := 22) hx hb d_SlippedStreamsModel_register_10 (by decide) (fun hc => ?_) (fun hc => ?_)
    · replace h := if_t hc h
      refine lv_aload_n hx hb d_SlippedStreamsModel_register_22 rfl (lv_at hl 0 rfl) ?_
      refine mg_0_registers hx hb hts hin_SlippedStreamsModel hown hK hP (hts _ k_821) (fun _ h9 => h9) d_SlippedStreamsModel_register_23 ?_
      refine lv_aload_n hx hb d_SlippedStreamsModel_register_26 rfl (lv_at hl 0 rfl) ?_
      refine mg_0_isAddress hx hb hts hin_SlippedStreamsModel hown hK hP (hts _ k_820) (fun _ h9 => h9) d_SlippedStreamsModel_register_27 ?_
      refine lv_iload_n hx hb d_SlippedStreamsModel_register_30 rfl (lv_at hl 1 rfl) ?_
      obtain ⟨hi, h⟩ := gin_e h
      refine ml_4 hx hb hK hP hi d_SlippedStreamsModel_register_31 ?_
      refine lv_if_eq (tgt := 39) hx hb d_SlippedStreamsModel_register_32 (by decide) (fun hc => ?_) (fun hc => ?_)
      · replace h := if_t hc h
        refine lv_bipush (v := 8) hx hb d_SlippedStreamsModel_register_39 (by decide) ?_
        refine lv_iload_n hx hb d_SlippedStreamsModel_register_41 rfl (lv_at hl 1 rfl) ?_
        refine lv_iadd hx hb d_SlippedStreamsModel_register_42 ?_
        obtain ⟨hi, h⟩ := gin_e h
        refine ml_5 hx hb hK hP hi d_SlippedStreamsModel_register_43 ?_
        exact q_iret hx hb hr hlocks h hP hD hS d_SlippedStreamsModel_register_44
      · replace h := if_f hc h
        refine lv_iload_n hx hb d_SlippedStreamsModel_register_35 rfl (lv_at hl 1 rfl) ?_
        refine lv_goto (tgt := 43) hx hb d_SlippedStreamsModel_register_36 (by decide) ?_
        obtain ⟨hi, h⟩ := gin_e h
        refine ml_5 hx hb hK hP hi d_SlippedStreamsModel_register_43 ?_
        exact q_iret hx hb hr hlocks h hP hD hS d_SlippedStreamsModel_register_44
    · replace h := if_f hc h
      refine lv_aload_n hx hb d_SlippedStreamsModel_register_13 rfl (lv_at hl 0 rfl) ?_
      refine mg_0_plainRegisters hx hb hts hin_SlippedStreamsModel hown hK hP (hts _ k_834) (fun _ h9 => h9) d_SlippedStreamsModel_register_14 ?_
      refine lv_iload_n hx hb d_SlippedStreamsModel_register_17 rfl (lv_at hl 1 rfl) ?_
      obtain ⟨hi, h⟩ := gin_e h
      refine ml_14 hx hb hK hP hi d_SlippedStreamsModel_register_18 ?_
      refine lv_goto (tgt := 44) hx hb d_SlippedStreamsModel_register_19 (by decide) ?_
      exact q_iret hx hb hr hlocks h hP hD hS d_SlippedStreamsModel_register_44
  · replace h := if_t hc h
    refine lv_iconst (v := 0) hx hb d_SlippedStreamsModel_register_7 (by decide) ?_
    exact q_iret hx hb hr hlocks h hP hD hS d_SlippedStreamsModel_register_8
def m_peek (z0 : ST) (x1 x2 : Int32) : OR := if x2 = 0 then (gin (x1 &&& 31) 32 (some (z0.2 8 (x1 &&& 31).toNatClampNeg, z0))) else (gin (x1 &&& 31) 32 (some (z0.2 15 (x1 &&& 31).toNatClampNeg, z0)))
set_option maxRecDepth 100000 in
set_option maxHeartbeats 4000000 in
theorem c_m_peek (l : Launch) (dC : Nat → ClassId) (dI : Nat → Nat → Nat) (cI cZ : ClassId) (ad : Nat → Nat) (z0 : ST) (x1 x2 : Int32) (R : Int32 × ST) (h : m_peek z0 x1 x2 = some R) : qMi l y_SlippedStreamsModel_peek w_SlippedStreamsModel_peek 0 0 (KX dC dI cI cZ) (dC, dI) q_cl (wM cI cZ ad) [.ref (ad 0), .int x1, .int x2] z0 R := by
  intro sz
  refine Met.ofW (cc := b_SlippedStreamsModel_peek) (maxL := 3) (ret := (some .int)) (by decide) rfl ?_
  intro p e s m args below meth c s₁ B hml hv
  obtain ⟨rfl, hsz, hP, hKK, hD0⟩ := hv
  have hx := B.exec
  have hb := B.bytes
  have hr := B.returns
  have hts : ∀ w ∈ q_big, w.before _ s = true := fun w h => atoms_spec (ws := w_SlippedStreamsModel_peek) B.pre w (List.mem_cons_of_mem _ h)
  have hown : s.vm.findClass "SlippedStreamsModel" = some m.cls := findClass_of_methodNamed B.named
  have hlocks := B.notSynchronized
  subst hsz
  have hD := hD0.self (sz := s.heap.size)
  generalize hAe : va_A (wM cI cZ ad z0) s.heap.size = A at hD ⊢
  have hA : ∀ q : Nat, s.heap.size ≤ q → A q := fun q h => by rw [← hAe]; exact Or.inr h
  have hS : va_S A s.heap s.heap [] := va_S.rf
  have hK := hKK.1
  have hl := lv_entry ([.ref (ad 0), .int x1, .int x2]) (n := 3) (Nat.le_of_ble_eq_true rfl)
  rw [lg_entry_eq]
  generalize (lg_sl ([.ref (ad 0), .int x1, .int x2]) ++ List.replicate (3 - (lg_sl ([.ref (ad 0), .int x1, .int x2])).length) Slot.unset).toArray = ls at hl ⊢
  have hl : lv_has ls 3 [(0, .ref (ad 0)), (1, .int x1), (2, .int x2)] := hl
  unfold m_peek at h
  refine lv_iload_n hx hb d_SlippedStreamsModel_peek_0 rfl (lv_at hl 2 rfl) ?_
  refine lv_if_eq (tgt := 16) hx hb d_SlippedStreamsModel_peek_1 (by decide) (fun hc => ?_) (fun hc => ?_)
  · replace h := if_t hc h
    refine lv_aload_n hx hb d_SlippedStreamsModel_peek_16 rfl (lv_at hl 0 rfl) ?_
    refine mg_0_memory hx hb hts hin_SlippedStreamsModel hown hK hP (hts _ k_825) (fun _ h9 => h9) d_SlippedStreamsModel_peek_17 ?_
    refine lv_iload_n hx hb d_SlippedStreamsModel_peek_20 rfl (lv_at hl 1 rfl) ?_
    refine lv_bipush (v := 31) hx hb d_SlippedStreamsModel_peek_21 (by decide) ?_
    refine lv_iand hx hb d_SlippedStreamsModel_peek_23 ?_
    obtain ⟨hi, h⟩ := gin_e h
    refine ml_8 hx hb hK hP hi d_SlippedStreamsModel_peek_24 ?_
    exact q_iret hx hb hr hlocks h hP hD hS d_SlippedStreamsModel_peek_25
  · replace h := if_f hc h
    refine lv_aload_n hx hb d_SlippedStreamsModel_peek_4 rfl (lv_at hl 0 rfl) ?_
    refine mg_0_plainMemory hx hb hts hin_SlippedStreamsModel hown hK hP (hts _ k_835) (fun _ h9 => h9) d_SlippedStreamsModel_peek_5 ?_
    refine lv_iload_n hx hb d_SlippedStreamsModel_peek_8 rfl (lv_at hl 1 rfl) ?_
    refine lv_bipush (v := 31) hx hb d_SlippedStreamsModel_peek_9 (by decide) ?_
    refine lv_iand hx hb d_SlippedStreamsModel_peek_11 ?_
    obtain ⟨hi, h⟩ := gin_e h
    refine ml_15 hx hb hK hP hi d_SlippedStreamsModel_peek_12 ?_
    refine lv_goto (tgt := 25) hx hb d_SlippedStreamsModel_peek_13 (by decide) ?_
    exact q_iret hx hb hr hlocks h hP hD hS d_SlippedStreamsModel_peek_25
def m_losses (z0 : ST) : OR := some (z0.1 4, z0)
set_option maxRecDepth 100000 in
set_option maxHeartbeats 4000000 in
theorem c_m_losses (l : Launch) (dC : Nat → ClassId) (dI : Nat → Nat → Nat) (cI cZ : ClassId) (ad : Nat → Nat) (z0 : ST) (R : Int32 × ST) (h : m_losses z0 = some R) : qMi l y_SlippedStreamsModel_losses w_SlippedStreamsModel_losses 0 0 (KX dC dI cI cZ) (dC, dI) q_cl (wM cI cZ ad) [.ref (ad 0)] z0 R := by
  intro sz
  refine Met.ofW (cc := b_SlippedStreamsModel_losses) (maxL := 1) (ret := (some .int)) (by decide) rfl ?_
  intro p e s m args below meth c s₁ B hml hv
  obtain ⟨rfl, hsz, hP, hKK, hD0⟩ := hv
  have hx := B.exec
  have hb := B.bytes
  have hr := B.returns
  have hts : ∀ w ∈ q_big, w.before _ s = true := fun w h => atoms_spec (ws := w_SlippedStreamsModel_losses) B.pre w (List.mem_cons_of_mem _ h)
  have hown : s.vm.findClass "SlippedStreamsModel" = some m.cls := findClass_of_methodNamed B.named
  have hlocks := B.notSynchronized
  subst hsz
  have hD := hD0.self (sz := s.heap.size)
  generalize hAe : va_A (wM cI cZ ad z0) s.heap.size = A at hD ⊢
  have hA : ∀ q : Nat, s.heap.size ≤ q → A q := fun q h => by rw [← hAe]; exact Or.inr h
  have hS : va_S A s.heap s.heap [] := va_S.rf
  have hK := hKK.1
  have hl := lv_entry ([.ref (ad 0)]) (n := 1) (Nat.le_of_ble_eq_true rfl)
  rw [lg_entry_eq]
  generalize (lg_sl ([.ref (ad 0)]) ++ List.replicate (1 - (lg_sl ([.ref (ad 0)])).length) Slot.unset).toArray = ls at hl ⊢
  have hl : lv_has ls 1 [(0, .ref (ad 0))] := hl
  unfold m_losses at h
  refine lv_aload_n hx hb d_SlippedStreamsModel_losses_0 rfl (lv_at hl 0 rfl) ?_
  refine mg_0_lost hx hb hts hin_SlippedStreamsModel hown hK hP (hts _ k_826) (fun _ h9 => h9) d_SlippedStreamsModel_losses_1 ?_
  exact q_iret hx hb hr hlocks h hP hD hS d_SlippedStreamsModel_losses_4
