def m_plainStep_259 (z0 : ST) (y1 y2 y3 y4 y5 : Int32) : OR := bnd (stI z0 7 y5) (fun z1 => some (0, z1))
def m_plainStep_63 (z0 : ST) (y1 y2 y3 : Int32) : OR := gin y1 24 (bnd (stI z0 7 (y1 + 1)) (fun z2 => if y2 = 0 then (gin y1 24 (gin y1 24 (gin (z2.2 1 y1.toNatClampNeg) 8 (bnd (stA z2 14 (upd (z2.2 14) (z2.2 1 y1.toNatClampNeg).toNatClampNeg (z2.2 3 y1.toNatClampNeg))) (fun z11 => some (0, z11)))))) else (obn (m_reckons z2 y2) (fun r3 z3 => if r3 = 0 then (if y2 = 4 then (gin y1 24 (gin ((y3 + (z0.2 3 y1.toNatClampNeg)) &&& 31) 32 (gin (z3.2 1 y1.toNatClampNeg) 8 (bnd (stA z3 14 (upd (z3.2 14) (z3.2 1 y1.toNatClampNeg).toNatClampNeg (z3.2 15 ((y3 + (z0.2 3 y1.toNatClampNeg)) &&& 31).toNatClampNeg))) (fun z8 => some (0, z8)))))) else (if y2 = 5 then (gin y1 24 (gin (z3.2 1 y1.toNatClampNeg) 8 (gin ((y3 + (z0.2 3 y1.toNatClampNeg)) &&& 31) 32 (bnd (stA z3 15 (upd (z3.2 15) ((y3 + (z0.2 3 y1.toNatClampNeg)) &&& 31).toNatClampNeg (z3.2 14 (z3.2 1 y1.toNatClampNeg).toNatClampNeg))) (fun z7 => some (0, z7)))))) else (if y2 = 8 then (obn (m_write z3 64 (z3.1 9) y3) (fun r5 z5 => bnd (stI z5 9 ((z5.1 9) + 1)) (fun z6 => some (0, z6)))) else (gin y1 24 (gin (z3.2 2 y1.toNatClampNeg) 8 (obn (m_holds z3 y2 y3 (z3.2 14 (z3.2 2 y1.toNatClampNeg).toNatClampNeg)) (fun r4 z4 => if r4 = 0 then (m_plainStep_259 z4 y1 y2 y3 ((y3 + (z0.2 3 y1.toNatClampNeg)) &&& 31) (y1 + 1)) else (gin y1 24 (m_plainStep_259 z4 y1 y2 y3 ((y3 + (z0.2 3 y1.toNatClampNeg)) &&& 31) (z4.2 3 y1.toNatClampNeg)))))))))) else (gin y1 24 (gin y1 24 (gin (z3.2 3 y1.toNatClampNeg) 8 (obn (m_reckon z3 y2 y3 (z3.2 14 (z3.2 3 y1.toNatClampNeg).toNatClampNeg)) (fun r9 z9 => gin (z3.2 1 y1.toNatClampNeg) 8 (bnd (stA z9 14 (upd (z9.2 14) (z3.2 1 y1.toNatClampNeg).toNatClampNeg r9)) (fun z10 => some (0, z10))))))))))))
def m_plainStep_38 (z0 : ST) (y1 y2 : Int32) : OR := gin y1 24 (gin (z0.2 1 y1.toNatClampNeg) 8 (m_plainStep_63 z0 y1 y2 (z0.2 14 (z0.2 1 y1.toNatClampNeg).toNatClampNeg)))
def m_plainStep (z0 : ST) : OR := gin (z0.1 7) 24 (if (z0.2 0 (z0.1 7).toNatClampNeg) = 0 then (m_plainStep_63 z0 (z0.1 7) (z0.2 0 (z0.1 7).toNatClampNeg) 0) else (if (z0.2 0 (z0.1 7).toNatClampNeg) = 6 then (m_plainStep_38 z0 (z0.1 7) (z0.2 0 (z0.1 7).toNatClampNeg)) else (if (z0.2 0 (z0.1 7).toNatClampNeg) = 7 then (m_plainStep_38 z0 (z0.1 7) (z0.2 0 (z0.1 7).toNatClampNeg)) else (if (z0.2 0 (z0.1 7).toNatClampNeg) = 8 then (m_plainStep_38 z0 (z0.1 7) (z0.2 0 (z0.1 7).toNatClampNeg)) else (gin (z0.1 7) 24 (gin (z0.2 2 (z0.1 7).toNatClampNeg) 8 (m_plainStep_63 z0 (z0.1 7) (z0.2 0 (z0.1 7).toNatClampNeg) (z0.2 14 (z0.2 2 (z0.1 7).toNatClampNeg).toNatClampNeg))))))))
set_option maxRecDepth 100000 in
set_option maxHeartbeats 4000000 in
theorem c_m_plainStep (l : Launch) (dC : Nat → ClassId) (dI : Nat → Nat → Nat) (cI cZ : ClassId) (ad : Nat → Nat) (z0 : ST) (R : Int32 × ST) (h : m_plainStep z0 = some R) : qMv l y_SlippedStreamsModel_plainStep w_SlippedStreamsModel_plainStep 1 23 (KX dC dI cI cZ) (dC, dI) q_cl (wM cI cZ ad) [.ref (ad 0)] z0 R := by
  intro sz
  refine Met.ofW (cc := b_SlippedStreamsModel_plainStep) (maxL := 5) (ret := none) (by decide) rfl ?_
  intro p e s m args below meth c s₁ B hml hv
  obtain ⟨rfl, hsz, hP, hKK, hD0⟩ := hv
  have hx := B.exec
  have hb := B.bytes
  have hr := B.returns
  have hts : ∀ w ∈ q_big, w.before _ s = true := fun w h => atoms_spec (ws := w_SlippedStreamsModel_plainStep) B.pre w (List.mem_cons_of_mem _ h)
  have hown : s.vm.findClass "SlippedStreamsModel" = some m.cls := findClass_of_methodNamed B.named
  have hlocks := B.notSynchronized
  subst hsz
  have hD := hD0.self (sz := s.heap.size)
  generalize hAe : va_A (wM cI cZ ad z0) s.heap.size = A at hD ⊢
  have hA : ∀ q : Nat, s.heap.size ≤ q → A q := fun q h => by rw [← hAe]; exact Or.inr h
  have hS : va_S A s.heap s.heap [] := va_S.rf
  have hK := hKK.1
  have hl := lv_entry ([.ref (ad 0)]) (n := 5) (Nat.le_of_ble_eq_true rfl)
  rw [lg_entry_eq]
  generalize (lg_sl ([.ref (ad 0)]) ++ List.replicate (5 - (lg_sl ([.ref (ad 0)])).length) Slot.unset).toArray = ls at hl ⊢
  have hl : lv_has ls 5 [(0, .ref (ad 0))] := hl
  have jp_259 : ∀ (z0 : ST) (y1 y2 y3 y4 y5 : Int32) (H : Heap) (locs : List Loc) (ls : Array Slot), m_plainStep_259 z0 y1 y2 y3 y4 y5 = some R → va_P (dC, dI) q_cl (wM cI cZ ad z0) H → va_D A (wM cI cZ ad z0) → va_S A s.heap H locs → lv_has ls 5 [(0, .ref (ad 0)), (1, .int y1), (2, .int y2), (3, .int y3), (4, .int y4)] → qWv p l e w_SlippedStreamsModel_plainStep 1 23 s m [.ref (ad 0)] below meth c (dC, dI) q_cl (wM cI cZ ad) A R H locs (F0 m 259 ls [.int y5, .ref (ad 0)]) := by
    intro z0 y1 y2 y3 y4 y5 H locs ls h hP hD hS hl
    unfold m_plainStep_259 at h
    obtain ⟨z1, e1, h⟩ := bnd_e h
    refine mp_0_plainPlace hx hb hts hin_SlippedStreamsModel hown hK hP hD hS (hts _ k_836) (fun _ h9 => h9) d_SlippedStreamsModel_plainStep_259 e1 (fun H locs hP hD hS => ?_)
    exact q_vret hx hb hr hlocks h hP hD hS d_SlippedStreamsModel_plainStep_262
  have jp_63 : ∀ (z0 : ST) (y1 y2 y3 : Int32) (H : Heap) (locs : List Loc) (ls : Array Slot), m_plainStep_63 z0 y1 y2 y3 = some R → va_P (dC, dI) q_cl (wM cI cZ ad z0) H → va_D A (wM cI cZ ad z0) → va_S A s.heap H locs → lv_has ls 5 [(0, .ref (ad 0)), (1, .int y1), (2, .int y2)] → qWv p l e w_SlippedStreamsModel_plainStep 1 23 s m [.ref (ad 0)] below meth c (dC, dI) q_cl (wM cI cZ ad) A R H locs (F0 m 63 ls [.int y3]) := by
    intro z0 y1 y2 y3 H locs ls h hP hD hS hl
    unfold m_plainStep_63 at h
    refine lv_istore_n (lv' := [(3, .int y3), (0, .ref (ad 0)), (1, .int y1), (2, .int y2)]) hx hb d_SlippedStreamsModel_plainStep_63 rfl hl (by decide) rfl (fun ls hl => ?_)
    refine lv_iload_n hx hb d_SlippedStreamsModel_plainStep_64 rfl (lv_at hl 0 rfl) ?_
    refine lv_aload_n hx hb d_SlippedStreamsModel_plainStep_65 rfl (lv_at hl 1 rfl) ?_
    refine mg_0_cs hx hb hts hin_SlippedStreamsModel hown hK hP (hts _ k_817) (fun _ h9 => h9) d_SlippedStreamsModel_plainStep_66 ?_
    refine lv_iload_n hx hb d_SlippedStreamsModel_plainStep_69 rfl (lv_at hl 2 rfl) ?_
    obtain ⟨hi, h⟩ := gin_e h
    refine ml_3 hx hb hK hP hi d_SlippedStreamsModel_plainStep_70 ?_
    refine lv_iadd hx hb d_SlippedStreamsModel_plainStep_71 ?_
    refine lv_bipush (v := 31) hx hb d_SlippedStreamsModel_plainStep_72 (by decide) ?_
    refine lv_iand hx hb d_SlippedStreamsModel_plainStep_74 ?_
    refine lv_istore (lv' := [(4, .int ((y3 + (z0.2 3 y1.toNatClampNeg)) &&& 31)), (3, .int y3), (0, .ref (ad 0)), (1, .int y1), (2, .int y2)]) hx hb d_SlippedStreamsModel_plainStep_75 hl (by decide) rfl (fun ls hl => ?_)
    refine lv_aload_n hx hb d_SlippedStreamsModel_plainStep_77 rfl (lv_at hl 2 rfl) ?_
    refine lv_iload_n hx hb d_SlippedStreamsModel_plainStep_78 rfl (lv_at hl 3 rfl) ?_
    refine lv_iconst (v := 1) hx hb d_SlippedStreamsModel_plainStep_79 (by decide) ?_
    refine lv_iadd hx hb d_SlippedStreamsModel_plainStep_80 ?_
    obtain ⟨z2, e2, h⟩ := bnd_e h
    refine mp_0_plainPlace hx hb hts hin_SlippedStreamsModel hown hK hP hD hS (hts _ k_836) (fun _ h9 => h9) d_SlippedStreamsModel_plainStep_81 e2 (fun H locs hP hD hS => ?_)
    refine lv_iload_n hx hb d_SlippedStreamsModel_plainStep_84 rfl (lv_at hl 4 rfl) ?_
    refine lv_if_ne (tgt := 108) hx hb d_SlippedStreamsModel_plainStep_85 (by decide) (fun hc => ?_) (fun hc => ?_)
    · replace h := if_f hc h
      refine lv_iload_n hx hb d_SlippedStreamsModel_plainStep_108 rfl (lv_at hl 4 rfl) ?_
      obtain ⟨r3, z3, hc3, h⟩ := obn_e h
      refine q_goi (va_runS (As := [.int y2]) (rest := []) ⟨hx, hb, hml, hown, hts⟩ (c_m_reckons l dC dI cI cZ ad z2 y2 _ hc3 _) (va_cwS 1 hts (q_goodL _ (q_l3 k_906 k_907 k_64) k_908) rfl rfl rfl (by decide +kernel) ⟨Nat.le_of_ble_eq_true rfl, Nat.le_of_ble_eq_true rfl⟩) (q_preS qok hKK hP hD) rfl rfl hl.1 rfl (lv_room (Nat.le_of_ble_eq_true rfl)) d_SlippedStreamsModel_plainStep_109 ⟨Nat.le_refl _, Nat.le_refl _⟩) hD hS hA (fun H locs hP hD hS => ?_)
      refine lv_if_eq (tgt := 145) hx hb d_SlippedStreamsModel_plainStep_112 (by decide) (fun hc => ?_) (fun hc => ?_)
      · replace h := if_t hc h
        refine lv_iload_n hx hb d_SlippedStreamsModel_plainStep_145 rfl (lv_at hl 4 rfl) ?_
        refine lv_iconst (v := 4) hx hb d_SlippedStreamsModel_plainStep_146 (by decide) ?_
        refine lv_icmp_ne (tgt := 171) hx hb d_SlippedStreamsModel_plainStep_147 (by decide) (fun hc => ?_) (fun hc => ?_)
        · replace h := if_f hc h
          refine lv_iload_n hx hb d_SlippedStreamsModel_plainStep_171 rfl (lv_at hl 4 rfl) ?_
          refine lv_iconst (v := 5) hx hb d_SlippedStreamsModel_plainStep_172 (by decide) ?_
          refine lv_icmp_ne (tgt := 197) hx hb d_SlippedStreamsModel_plainStep_173 (by decide) (fun hc => ?_) (fun hc => ?_)
          · replace h := if_f hc h
            refine lv_iload_n hx hb d_SlippedStreamsModel_plainStep_197 rfl (lv_at hl 4 rfl) ?_
            refine lv_bipush (v := 8) hx hb d_SlippedStreamsModel_plainStep_198 (by decide) ?_
            refine lv_icmp_ne (tgt := 227) hx hb d_SlippedStreamsModel_plainStep_200 (by decide) (fun hc => ?_) (fun hc => ?_)
            · replace h := if_f hc h
              refine lv_aload_n hx hb d_SlippedStreamsModel_plainStep_227 rfl (lv_at hl 2 rfl) ?_
              refine lv_iload_n hx hb d_SlippedStreamsModel_plainStep_228 rfl (lv_at hl 4 rfl) ?_
              refine lv_iload_n hx hb d_SlippedStreamsModel_plainStep_229 rfl (lv_at hl 1 rfl) ?_
              refine lv_aload_n hx hb d_SlippedStreamsModel_plainStep_230 rfl (lv_at hl 2 rfl) ?_
              refine mg_0_plainRegisters hx hb hts hin_SlippedStreamsModel hown hK hP (hts _ k_834) (fun _ h9 => h9) d_SlippedStreamsModel_plainStep_231 ?_
              refine lv_aload_n hx hb d_SlippedStreamsModel_plainStep_234 rfl (lv_at hl 2 rfl) ?_
              refine mg_0_bs hx hb hts hin_SlippedStreamsModel hown hK hP (hts _ k_816) (fun _ h9 => h9) d_SlippedStreamsModel_plainStep_235 ?_
              refine lv_iload_n hx hb d_SlippedStreamsModel_plainStep_238 rfl (lv_at hl 3 rfl) ?_
              obtain ⟨hi, h⟩ := gin_e h
              refine ml_2 hx hb hK hP hi d_SlippedStreamsModel_plainStep_239 ?_
              obtain ⟨hi, h⟩ := gin_e h
              refine ml_14 hx hb hK hP hi d_SlippedStreamsModel_plainStep_240 ?_
              obtain ⟨r4, z4, hc4, h⟩ := obn_e h
              refine q_goi (va_runS (As := [.int y2, .int y3, .int (z3.2 14 (z3.2 2 y1.toNatClampNeg).toNatClampNeg)]) (rest := [.ref (ad 0)]) ⟨hx, hb, hml, hown, hts⟩ (c_m_holds l dC dI cI cZ ad z3 y2 y3 (z3.2 14 (z3.2 2 y1.toNatClampNeg).toNatClampNeg) _ hc4 _) (va_cwS 3 hts (q_goodL _ (q_l3 k_1001 k_1002 k_64) k_1003) rfl rfl rfl (by decide +kernel) ⟨Nat.le_of_ble_eq_true rfl, Nat.le_of_ble_eq_true rfl⟩) (q_preS qok hKK hP hD) rfl rfl hl.1 rfl (lv_room (Nat.le_of_ble_eq_true rfl)) d_SlippedStreamsModel_plainStep_241 ⟨Nat.le_refl _, Nat.le_refl _⟩) hD hS hA (fun H locs hP hD hS => ?_)
              refine lv_if_eq (tgt := 256) hx hb d_SlippedStreamsModel_plainStep_244 (by decide) (fun hc => ?_) (fun hc => ?_)
              · replace h := if_t hc h
                refine lv_iload_n hx hb d_SlippedStreamsModel_plainStep_256 rfl (lv_at hl 3 rfl) ?_
                refine lv_iconst (v := 1) hx hb d_SlippedStreamsModel_plainStep_257 (by decide) ?_
                refine lv_iadd hx hb d_SlippedStreamsModel_plainStep_258 ?_
                exact jp_259 z4 y1 y2 y3 ((y3 + (z0.2 3 y1.toNatClampNeg)) &&& 31) (y1 + 1) _ _ _ h hP hD hS (lv_sub hl [2, 3, 4, 1, 0] rfl)
              · replace h := if_f hc h
                refine lv_aload_n hx hb d_SlippedStreamsModel_plainStep_247 rfl (lv_at hl 2 rfl) ?_
                refine mg_0_cs hx hb hts hin_SlippedStreamsModel hown hK hP (hts _ k_817) (fun _ h9 => h9) d_SlippedStreamsModel_plainStep_248 ?_
                refine lv_iload_n hx hb d_SlippedStreamsModel_plainStep_251 rfl (lv_at hl 3 rfl) ?_
                obtain ⟨hi, h⟩ := gin_e h
                refine ml_3 hx hb hK hP hi d_SlippedStreamsModel_plainStep_252 ?_
                refine lv_goto (tgt := 259) hx hb d_SlippedStreamsModel_plainStep_253 (by decide) ?_
                exact jp_259 z4 y1 y2 y3 ((y3 + (z0.2 3 y1.toNatClampNeg)) &&& 31) (z4.2 3 y1.toNatClampNeg) _ _ _ h hP hD hS (lv_sub hl [2, 3, 4, 1, 0] rfl)
            · replace h := if_t hc h
              refine lv_aload_n hx hb d_SlippedStreamsModel_plainStep_203 rfl (lv_at hl 2 rfl) ?_
              refine lv_bipush (v := 64) hx hb d_SlippedStreamsModel_plainStep_204 (by decide) ?_
              refine lv_aload_n hx hb d_SlippedStreamsModel_plainStep_206 rfl (lv_at hl 2 rfl) ?_
              refine mg_0_plainOutputs hx hb hts hin_SlippedStreamsModel hown hK hP (hts _ k_839) (fun _ h9 => h9) d_SlippedStreamsModel_plainStep_207 ?_
              refine lv_iload_n hx hb d_SlippedStreamsModel_plainStep_210 rfl (lv_at hl 1 rfl) ?_
              obtain ⟨r5, z5, hc5, h⟩ := obn_e h
              refine q_gov (va_runV (As := [.int 64, .int (z3.1 9), .int y3]) (rest := []) ⟨hx, hb, hml, hown, hts⟩ (c_m_write l dC dI cI cZ ad z3 64 (z3.1 9) y3 _ hc5 _) (cwV 3 hts (q_goodL _ (q_l4 k_1027 k_1029 k_50 k_64) k_1030) rfl rfl rfl (by decide +kernel) ⟨Nat.le_of_ble_eq_true rfl, Nat.le_of_ble_eq_true rfl⟩) (q_preV qok hKK hP hD (va_recv (ci := 9) (q0 := 0) hK hP rfl rfl)) rfl rfl hl.1 rfl (lv_room (Nat.le_of_ble_eq_true rfl)) d_SlippedStreamsModel_plainStep_211 ⟨Nat.le_refl _, Nat.le_refl _⟩) hD hS hA (fun H locs hP hD hS => ?_)
              refine lv_aload_n hx hb d_SlippedStreamsModel_plainStep_214 rfl (lv_at hl 2 rfl) ?_
              refine lv_aload_n hx hb d_SlippedStreamsModel_plainStep_215 rfl (lv_at hl 2 rfl) ?_
              refine mg_0_plainOutputs hx hb hts hin_SlippedStreamsModel hown hK hP (hts _ k_839) (fun _ h9 => h9) d_SlippedStreamsModel_plainStep_216 ?_
              refine lv_iconst (v := 1) hx hb d_SlippedStreamsModel_plainStep_219 (by decide) ?_
              refine lv_iadd hx hb d_SlippedStreamsModel_plainStep_220 ?_
              obtain ⟨z6, e6, h⟩ := bnd_e h
              refine mp_0_plainOutputs hx hb hts hin_SlippedStreamsModel hown hK hP hD hS (hts _ k_839) (fun _ h9 => h9) d_SlippedStreamsModel_plainStep_221 e6 (fun H locs hP hD hS => ?_)
              refine lv_goto (tgt := 262) hx hb d_SlippedStreamsModel_plainStep_224 (by decide) ?_
              exact q_vret hx hb hr hlocks h hP hD hS d_SlippedStreamsModel_plainStep_262
          · replace h := if_t hc h
            refine lv_aload_n hx hb d_SlippedStreamsModel_plainStep_176 rfl (lv_at hl 2 rfl) ?_
            refine mg_0_plainMemory hx hb hts hin_SlippedStreamsModel hown hK hP (hts _ k_835) (fun _ h9 => h9) d_SlippedStreamsModel_plainStep_177 ?_
            refine lv_iload hx hb d_SlippedStreamsModel_plainStep_180 (lv_at hl 0 rfl) ?_
            refine lv_aload_n hx hb d_SlippedStreamsModel_plainStep_182 rfl (lv_at hl 2 rfl) ?_
            refine mg_0_plainRegisters hx hb hts hin_SlippedStreamsModel hown hK hP (hts _ k_834) (fun _ h9 => h9) d_SlippedStreamsModel_plainStep_183 ?_
            refine lv_aload_n hx hb d_SlippedStreamsModel_plainStep_186 rfl (lv_at hl 2 rfl) ?_
            refine mg_0_as hx hb hts hin_SlippedStreamsModel hown hK hP (hts _ k_815) (fun _ h9 => h9) d_SlippedStreamsModel_plainStep_187 ?_
            refine lv_iload_n hx hb d_SlippedStreamsModel_plainStep_190 rfl (lv_at hl 3 rfl) ?_
            obtain ⟨hi, h⟩ := gin_e h
            refine ml_1 hx hb hK hP hi d_SlippedStreamsModel_plainStep_191 ?_
            obtain ⟨hi, h⟩ := gin_e h
            refine ml_14 hx hb hK hP hi d_SlippedStreamsModel_plainStep_192 ?_
            obtain ⟨hi, h⟩ := gin_e h
            obtain ⟨z7, e7, h⟩ := bnd_e h
            refine ms_15 hx hb hK hP hD hS hi d_SlippedStreamsModel_plainStep_193 e7 (fun H locs hP hD hS => ?_)
            refine lv_goto (tgt := 262) hx hb d_SlippedStreamsModel_plainStep_194 (by decide) ?_
            exact q_vret hx hb hr hlocks h hP hD hS d_SlippedStreamsModel_plainStep_262
        · replace h := if_t hc h
          refine lv_aload_n hx hb d_SlippedStreamsModel_plainStep_150 rfl (lv_at hl 2 rfl) ?_
          refine mg_0_plainRegisters hx hb hts hin_SlippedStreamsModel hown hK hP (hts _ k_834) (fun _ h9 => h9) d_SlippedStreamsModel_plainStep_151 ?_
          refine lv_aload_n hx hb d_SlippedStreamsModel_plainStep_154 rfl (lv_at hl 2 rfl) ?_
          refine mg_0_as hx hb hts hin_SlippedStreamsModel hown hK hP (hts _ k_815) (fun _ h9 => h9) d_SlippedStreamsModel_plainStep_155 ?_
          refine lv_iload_n hx hb d_SlippedStreamsModel_plainStep_158 rfl (lv_at hl 3 rfl) ?_
          obtain ⟨hi, h⟩ := gin_e h
          refine ml_1 hx hb hK hP hi d_SlippedStreamsModel_plainStep_159 ?_
          refine lv_aload_n hx hb d_SlippedStreamsModel_plainStep_160 rfl (lv_at hl 2 rfl) ?_
          refine mg_0_plainMemory hx hb hts hin_SlippedStreamsModel hown hK hP (hts _ k_835) (fun _ h9 => h9) d_SlippedStreamsModel_plainStep_161 ?_
          refine lv_iload hx hb d_SlippedStreamsModel_plainStep_164 (lv_at hl 0 rfl) ?_
          obtain ⟨hi, h⟩ := gin_e h
          refine ml_15 hx hb hK hP hi d_SlippedStreamsModel_plainStep_166 ?_
          obtain ⟨hi, h⟩ := gin_e h
          obtain ⟨z8, e8, h⟩ := bnd_e h
          refine ms_14 hx hb hK hP hD hS hi d_SlippedStreamsModel_plainStep_167 e8 (fun H locs hP hD hS => ?_)
          refine lv_goto (tgt := 262) hx hb d_SlippedStreamsModel_plainStep_168 (by decide) ?_
          exact q_vret hx hb hr hlocks h hP hD hS d_SlippedStreamsModel_plainStep_262
      · replace h := if_f hc h
        refine lv_aload_n hx hb d_SlippedStreamsModel_plainStep_115 rfl (lv_at hl 2 rfl) ?_
        refine mg_0_plainRegisters hx hb hts hin_SlippedStreamsModel hown hK hP (hts _ k_834) (fun _ h9 => h9) d_SlippedStreamsModel_plainStep_116 ?_
        refine lv_aload_n hx hb d_SlippedStreamsModel_plainStep_119 rfl (lv_at hl 2 rfl) ?_
        refine mg_0_as hx hb hts hin_SlippedStreamsModel hown hK hP (hts _ k_815) (fun _ h9 => h9) d_SlippedStreamsModel_plainStep_120 ?_
        refine lv_iload_n hx hb d_SlippedStreamsModel_plainStep_123 rfl (lv_at hl 3 rfl) ?_
        obtain ⟨hi, h⟩ := gin_e h
        refine ml_1 hx hb hK hP hi d_SlippedStreamsModel_plainStep_124 ?_
        refine lv_iload_n hx hb d_SlippedStreamsModel_plainStep_125 rfl (lv_at hl 4 rfl) ?_
        refine lv_iload_n hx hb d_SlippedStreamsModel_plainStep_126 rfl (lv_at hl 1 rfl) ?_
        refine lv_aload_n hx hb d_SlippedStreamsModel_plainStep_127 rfl (lv_at hl 2 rfl) ?_
        refine mg_0_plainRegisters hx hb hts hin_SlippedStreamsModel hown hK hP (hts _ k_834) (fun _ h9 => h9) d_SlippedStreamsModel_plainStep_128 ?_
        refine lv_aload_n hx hb d_SlippedStreamsModel_plainStep_131 rfl (lv_at hl 2 rfl) ?_
        refine mg_0_cs hx hb hts hin_SlippedStreamsModel hown hK hP (hts _ k_817) (fun _ h9 => h9) d_SlippedStreamsModel_plainStep_132 ?_
        refine lv_iload_n hx hb d_SlippedStreamsModel_plainStep_135 rfl (lv_at hl 3 rfl) ?_
        obtain ⟨hi, h⟩ := gin_e h
        refine ml_3 hx hb hK hP hi d_SlippedStreamsModel_plainStep_136 ?_
        obtain ⟨hi, h⟩ := gin_e h
        refine ml_14 hx hb hK hP hi d_SlippedStreamsModel_plainStep_137 ?_
        obtain ⟨r9, z9, hc9, h⟩ := obn_e h
        refine q_goi (va_runS (As := [.int y2, .int y3, .int (z3.2 14 (z3.2 3 y1.toNatClampNeg).toNatClampNeg)]) (rest := [.int (z3.2 1 y1.toNatClampNeg), .ref (ad 15)]) ⟨hx, hb, hml, hown, hts⟩ (c_m_reckon l dC dI cI cZ ad z3 y2 y3 (z3.2 14 (z3.2 3 y1.toNatClampNeg).toNatClampNeg) _ hc9 _) (va_cwS 3 hts (q_goodL _ (q_l3 k_1004 k_1005 k_64) k_1006) rfl rfl rfl (by decide +kernel) ⟨Nat.le_of_ble_eq_true rfl, Nat.le_of_ble_eq_true rfl⟩) (q_preS qok hKK hP hD) rfl rfl hl.1 rfl (lv_room (Nat.le_of_ble_eq_true rfl)) d_SlippedStreamsModel_plainStep_138 ⟨Nat.le_refl _, Nat.le_refl _⟩) hD hS hA (fun H locs hP hD hS => ?_)
        obtain ⟨hi, h⟩ := gin_e h
        obtain ⟨z10, e10, h⟩ := bnd_e h
        refine ms_14 hx hb hK hP hD hS hi d_SlippedStreamsModel_plainStep_141 e10 (fun H locs hP hD hS => ?_)
        refine lv_goto (tgt := 262) hx hb d_SlippedStreamsModel_plainStep_142 (by decide) ?_
        exact q_vret hx hb hr hlocks h hP hD hS d_SlippedStreamsModel_plainStep_262
    · replace h := if_t hc h
      refine lv_aload_n hx hb d_SlippedStreamsModel_plainStep_88 rfl (lv_at hl 2 rfl) ?_
      refine mg_0_plainRegisters hx hb hts hin_SlippedStreamsModel hown hK hP (hts _ k_834) (fun _ h9 => h9) d_SlippedStreamsModel_plainStep_89 ?_
      refine lv_aload_n hx hb d_SlippedStreamsModel_plainStep_92 rfl (lv_at hl 2 rfl) ?_
      refine mg_0_as hx hb hts hin_SlippedStreamsModel hown hK hP (hts _ k_815) (fun _ h9 => h9) d_SlippedStreamsModel_plainStep_93 ?_
      refine lv_iload_n hx hb d_SlippedStreamsModel_plainStep_96 rfl (lv_at hl 3 rfl) ?_
      obtain ⟨hi, h⟩ := gin_e h
      refine ml_1 hx hb hK hP hi d_SlippedStreamsModel_plainStep_97 ?_
      refine lv_aload_n hx hb d_SlippedStreamsModel_plainStep_98 rfl (lv_at hl 2 rfl) ?_
      refine mg_0_cs hx hb hts hin_SlippedStreamsModel hown hK hP (hts _ k_817) (fun _ h9 => h9) d_SlippedStreamsModel_plainStep_99 ?_
      refine lv_iload_n hx hb d_SlippedStreamsModel_plainStep_102 rfl (lv_at hl 3 rfl) ?_
      obtain ⟨hi, h⟩ := gin_e h
      refine ml_3 hx hb hK hP hi d_SlippedStreamsModel_plainStep_103 ?_
      obtain ⟨hi, h⟩ := gin_e h
      obtain ⟨z11, e11, h⟩ := bnd_e h
      refine ms_14 hx hb hK hP hD hS hi d_SlippedStreamsModel_plainStep_104 e11 (fun H locs hP hD hS => ?_)
      refine lv_goto (tgt := 262) hx hb d_SlippedStreamsModel_plainStep_105 (by decide) ?_
      exact q_vret hx hb hr hlocks h hP hD hS d_SlippedStreamsModel_plainStep_262
  have jp_38 : ∀ (z0 : ST) (y1 y2 : Int32) (H : Heap) (locs : List Loc) (ls : Array Slot), m_plainStep_38 z0 y1 y2 = some R → va_P (dC, dI) q_cl (wM cI cZ ad z0) H → va_D A (wM cI cZ ad z0) → va_S A s.heap H locs → lv_has ls 5 [(0, .ref (ad 0)), (1, .int y1), (2, .int y2)] → qWv p l e w_SlippedStreamsModel_plainStep 1 23 s m [.ref (ad 0)] below meth c (dC, dI) q_cl (wM cI cZ ad) A R H locs (F0 m 38 ls []) := by
    intro z0 y1 y2 H locs ls h hP hD hS hl
    unfold m_plainStep_38 at h
    refine lv_aload_n hx hb d_SlippedStreamsModel_plainStep_38 rfl (lv_at hl 0 rfl) ?_
    refine mg_0_plainRegisters hx hb hts hin_SlippedStreamsModel hown hK hP (hts _ k_834) (fun _ h9 => h9) d_SlippedStreamsModel_plainStep_39 ?_
    refine lv_aload_n hx hb d_SlippedStreamsModel_plainStep_42 rfl (lv_at hl 0 rfl) ?_
    refine mg_0_as hx hb hts hin_SlippedStreamsModel hown hK hP (hts _ k_815) (fun _ h9 => h9) d_SlippedStreamsModel_plainStep_43 ?_
    refine lv_iload_n hx hb d_SlippedStreamsModel_plainStep_46 rfl (lv_at hl 1 rfl) ?_
    obtain ⟨hi, h⟩ := gin_e h
    refine ml_1 hx hb hK hP hi d_SlippedStreamsModel_plainStep_47 ?_
    obtain ⟨hi, h⟩ := gin_e h
    refine ml_14 hx hb hK hP hi d_SlippedStreamsModel_plainStep_48 ?_
    refine lv_goto (tgt := 63) hx hb d_SlippedStreamsModel_plainStep_49 (by decide) ?_
    exact jp_63 z0 y1 y2 (z0.2 14 (z0.2 1 y1.toNatClampNeg).toNatClampNeg) _ _ _ h hP hD hS (lv_sub hl [0, 1, 2] rfl)
  unfold m_plainStep at h
  refine lv_aload_n hx hb d_SlippedStreamsModel_plainStep_0 rfl (lv_at hl 0 rfl) ?_
  refine mg_0_plainPlace hx hb hts hin_SlippedStreamsModel hown hK hP (hts _ k_836) (fun _ h9 => h9) d_SlippedStreamsModel_plainStep_1 ?_
  refine lv_istore_n (lv' := [(1, .int (z0.1 7)), (0, .ref (ad 0))]) hx hb d_SlippedStreamsModel_plainStep_4 rfl hl (by decide) rfl (fun ls hl => ?_)
  refine lv_aload_n hx hb d_SlippedStreamsModel_plainStep_5 rfl (lv_at hl 1 rfl) ?_
  refine mg_0_kinds hx hb hts hin_SlippedStreamsModel hown hK hP (hts _ k_814) (fun _ h9 => h9) d_SlippedStreamsModel_plainStep_6 ?_
  refine lv_iload_n hx hb d_SlippedStreamsModel_plainStep_9 rfl (lv_at hl 0 rfl) ?_
  obtain ⟨hi, h⟩ := gin_e h
  refine ml_0 hx hb hK hP hi d_SlippedStreamsModel_plainStep_10 ?_
  refine lv_istore_n (lv' := [(2, .int (z0.2 0 (z0.1 7).toNatClampNeg)), (1, .int (z0.1 7)), (0, .ref (ad 0))]) hx hb d_SlippedStreamsModel_plainStep_11 rfl hl (by decide) rfl (fun ls hl => ?_)
  refine lv_iload_n hx hb d_SlippedStreamsModel_plainStep_12 rfl (lv_at hl 0 rfl) ?_
  refine lv_if_ne (tgt := 20) hx hb d_SlippedStreamsModel_plainStep_13 (by decide) (fun hc => ?_) (fun hc => ?_)
  · replace h := if_f hc h
    refine lv_iload_n hx hb d_SlippedStreamsModel_plainStep_20 rfl (lv_at hl 0 rfl) ?_
    refine lv_bipush (v := 6) hx hb d_SlippedStreamsModel_plainStep_21 (by decide) ?_
    refine lv_icmp_eq (tgt := 38) hx hb d_SlippedStreamsModel_plainStep_23 (by decide) (fun hc => ?_) (fun hc => ?_)
    · replace h := if_t hc h
      exact jp_38 z0 (z0.1 7) (z0.2 0 (z0.1 7).toNatClampNeg) _ _ _ h hP hD hS (lv_sub hl [2, 1, 0] rfl)
    · replace h := if_f hc h
      refine lv_iload_n hx hb d_SlippedStreamsModel_plainStep_26 rfl (lv_at hl 0 rfl) ?_
      refine lv_bipush (v := 7) hx hb d_SlippedStreamsModel_plainStep_27 (by decide) ?_
      refine lv_icmp_eq (tgt := 38) hx hb d_SlippedStreamsModel_plainStep_29 (by decide) (fun hc => ?_) (fun hc => ?_)
      · replace h := if_t hc h
        exact jp_38 z0 (z0.1 7) (z0.2 0 (z0.1 7).toNatClampNeg) _ _ _ h hP hD hS (lv_sub hl [2, 1, 0] rfl)
      · replace h := if_f hc h
        refine lv_iload_n hx hb d_SlippedStreamsModel_plainStep_32 rfl (lv_at hl 0 rfl) ?_
        refine lv_bipush (v := 8) hx hb d_SlippedStreamsModel_plainStep_33 (by decide) ?_
        refine lv_icmp_ne (tgt := 52) hx hb d_SlippedStreamsModel_plainStep_35 (by decide) (fun hc => ?_) (fun hc => ?_)
        · replace h := if_f hc h
          refine lv_aload_n hx hb d_SlippedStreamsModel_plainStep_52 rfl (lv_at hl 2 rfl) ?_
          refine mg_0_plainRegisters hx hb hts hin_SlippedStreamsModel hown hK hP (hts _ k_834) (fun _ h9 => h9) d_SlippedStreamsModel_plainStep_53 ?_
          refine lv_aload_n hx hb d_SlippedStreamsModel_plainStep_56 rfl (lv_at hl 2 rfl) ?_
          refine mg_0_bs hx hb hts hin_SlippedStreamsModel hown hK hP (hts _ k_816) (fun _ h9 => h9) d_SlippedStreamsModel_plainStep_57 ?_
          refine lv_iload_n hx hb d_SlippedStreamsModel_plainStep_60 rfl (lv_at hl 1 rfl) ?_
          obtain ⟨hi, h⟩ := gin_e h
          refine ml_2 hx hb hK hP hi d_SlippedStreamsModel_plainStep_61 ?_
          obtain ⟨hi, h⟩ := gin_e h
          refine ml_14 hx hb hK hP hi d_SlippedStreamsModel_plainStep_62 ?_
          exact jp_63 z0 (z0.1 7) (z0.2 0 (z0.1 7).toNatClampNeg) (z0.2 14 (z0.2 2 (z0.1 7).toNatClampNeg).toNatClampNeg) _ _ _ h hP hD hS (lv_sub hl [2, 1, 0] rfl)
        · replace h := if_t hc h
          exact jp_38 z0 (z0.1 7) (z0.2 0 (z0.1 7).toNatClampNeg) _ _ _ h hP hD hS (lv_sub hl [2, 1, 0] rfl)
  · replace h := if_t hc h
    refine lv_iconst (v := 0) hx hb d_SlippedStreamsModel_plainStep_16 (by decide) ?_
    refine lv_goto (tgt := 63) hx hb d_SlippedStreamsModel_plainStep_17 (by decide) ?_
    exact jp_63 z0 (z0.1 7) (z0.2 0 (z0.1 7).toNatClampNeg) 0 _ _ _ h hP hD hS (lv_sub hl [2, 1, 0] rfl)
def m_plain_g0 (k : Nat → ST → Int32 → Int32 → OR) (z0 : ST) (y1 y2 : Int32) : OR := obn (m_isCount z0 y1) (fun r1 z1 => if r1 = 0 then (some ((-1), z1)) else (k 1 z1 y1 0))
def m_plain_g11 (k : Nat → ST → Int32 → Int32 → OR) (z0 : ST) (y1 y2 : Int32) : OR := if y1 ≤ y2 then (some (y2, z0)) else (if (z0.1 0) ≤ (z0.1 7) then (some (y2, z0)) else (obn (m_plainStep z0) (fun r2 z2 => k 1 z2 y1 (y2 + 1))))
def m_plain_g (k : Nat → ST → Int32 → Int32 → OR) (n : Nat) : ST → Int32 → Int32 → OR := match n with
  | 0 => m_plain_g0 k
  | 1 => m_plain_g11 k
  | _ => fun _ _ _ => none
def m_plain_f : Nat → Nat → ST → Int32 → Int32 → OR
  | 0 => fun _ _ _ _ => none
  | n + 1 => m_plain_g (m_plain_f n)
def m_plain (z0 : ST) (x1 : Int32) : OR := m_plain_f 4000 0 z0 x1 0
set_option maxRecDepth 100000 in
set_option maxHeartbeats 4000000 in
theorem c_m_plain (l : Launch) (dC : Nat → ClassId) (dI : Nat → Nat → Nat) (cI cZ : ClassId) (ad : Nat → Nat) (z0 : ST) (x1 : Int32) (R : Int32 × ST) (h : m_plain z0 x1 = some R) : qMi l y_SlippedStreamsModel_plain w_SlippedStreamsModel_plain 2 47 (KX dC dI cI cZ) (dC, dI) q_cl (wM cI cZ ad) [.ref (ad 0), .int x1] z0 R := by
  intro sz
  refine Met.ofW (cc := b_SlippedStreamsModel_plain) (maxL := 3) (ret := (some .int)) (by decide) rfl ?_
  intro p e s m args below meth c s₁ B hml hv
  obtain ⟨rfl, hsz, hP, hKK, hD0⟩ := hv
  have hx := B.exec
  have hb := B.bytes
  have hr := B.returns
  have hts : ∀ w ∈ q_big, w.before _ s = true := fun w h => atoms_spec (ws := w_SlippedStreamsModel_plain) B.pre w (List.mem_cons_of_mem _ h)
  have hown : s.vm.findClass "SlippedStreamsModel" = some m.cls := findClass_of_methodNamed B.named
  have hlocks := B.notSynchronized
  subst hsz
  have hD := hD0.self (sz := s.heap.size)
  generalize hAe : va_A (wM cI cZ ad z0) s.heap.size = A at hD ⊢
  have hA : ∀ q : Nat, s.heap.size ≤ q → A q := fun q h => by rw [← hAe]; exact Or.inr h
  have hS : va_S A s.heap s.heap [] := va_S.rf
  have hK := hKK.1
  have hl := lv_entry ([.ref (ad 0), .int x1]) (n := 3) (Nat.le_of_ble_eq_true rfl)
  rw [lg_entry_eq]
  generalize (lg_sl ([.ref (ad 0), .int x1]) ++ List.replicate (3 - (lg_sl ([.ref (ad 0), .int x1])).length) Slot.unset).toArray = ls at hl ⊢
  have hl : lv_has ls 3 [(0, .ref (ad 0)), (1, .int x1)] := hl
  have key : ∀ n : Nat, (∀ (z0 : ST) (y1 y2 : Int32) (H : Heap) (locs : List Loc) (ls : Array Slot), m_plain_f n 0 z0 y1 y2 = some R → va_P (dC, dI) q_cl (wM cI cZ ad z0) H → va_D A (wM cI cZ ad z0) → va_S A s.heap H locs → lv_has ls 3 [(0, .ref (ad 0)), (1, .int y1)] → qWi p l e w_SlippedStreamsModel_plain 2 47 s m [.ref (ad 0), .int x1] below meth c (dC, dI) q_cl (wM cI cZ ad) A R H locs (F0 m 0 ls [])) ∧ (∀ (z0 : ST) (y1 y2 : Int32) (H : Heap) (locs : List Loc) (ls : Array Slot), m_plain_f n 1 z0 y1 y2 = some R → va_P (dC, dI) q_cl (wM cI cZ ad z0) H → va_D A (wM cI cZ ad z0) → va_S A s.heap H locs → lv_has ls 3 [(0, .ref (ad 0)), (1, .int y1), (2, .int y2)] → qWi p l e w_SlippedStreamsModel_plain 2 47 s m [.ref (ad 0), .int x1] below meth c (dC, dI) q_cl (wM cI cZ ad) A R H locs (F0 m 11 ls [])) := by
    intro n
    induction n with
    | zero => exact ⟨fun z0 y1 y2 H locs ls h hP hD hS hl => (by cases h), fun z0 y1 y2 H locs ls h hP hD hS hl => (by cases h)⟩
    | succ n ih =>
      obtain ⟨jp_0, jp_11⟩ := ih
      refine ⟨?_, ?_⟩
      · intro z0 y1 y2 H locs ls h hP hD hS hl
        replace h : m_plain_g0 (m_plain_f n) z0 y1 y2 = some R := h
        unfold m_plain_g0 at h
        refine lv_iload_n hx hb d_SlippedStreamsModel_plain_0 rfl (lv_at hl 1 rfl) ?_
        obtain ⟨r1, z1, hc1, h⟩ := obn_e h
        refine q_goi (va_runS (As := [.int y1]) (rest := []) ⟨hx, hb, hml, hown, hts⟩ (c_m_isCount l dC dI cI cZ ad z0 y1 _ hc1 _) (va_cwS 1 hts (q_goodL _ (q_l3 k_954 k_955 k_64) k_956) rfl rfl rfl (by decide +kernel) ⟨Nat.le_of_ble_eq_true rfl, Nat.le_of_ble_eq_true rfl⟩) (q_preS qok hKK hP hD) rfl rfl hl.1 rfl (lv_room (Nat.le_of_ble_eq_true rfl)) d_SlippedStreamsModel_plain_1 ⟨Nat.le_refl _, Nat.le_refl _⟩) hD hS hA (fun H locs hP hD hS => ?_)
        refine lv_if_ne (tgt := 9) hx hb d_SlippedStreamsModel_plain_4 (by decide) (fun hc => ?_) (fun hc => ?_)
        · replace h := if_f hc h
          refine lv_iconst (v := 0) hx hb d_SlippedStreamsModel_plain_9 (by decide) ?_
          refine lv_istore_n (lv' := [(2, .int 0), (0, .ref (ad 0)), (1, .int y1)]) hx hb d_SlippedStreamsModel_plain_10 rfl hl (by decide) rfl (fun ls hl => ?_)
          exact jp_11 z1 y1 0 _ _ _ h hP hD hS (lv_sub hl [1, 2, 0] rfl)
        · replace h := if_t hc h
          refine lv_iconst (v := (-1)) hx hb d_SlippedStreamsModel_plain_7 (by decide) ?_
          exact q_iret hx hb hr hlocks h hP hD hS d_SlippedStreamsModel_plain_8
      · intro z0 y1 y2 H locs ls h hP hD hS hl
        replace h : m_plain_g11 (m_plain_f n) z0 y1 y2 = some R := h
        unfold m_plain_g11 at h
        refine lv_iload_n hx hb d_SlippedStreamsModel_plain_11 rfl (lv_at hl 2 rfl) ?_
        refine lv_iload_n hx hb d_SlippedStreamsModel_plain_12 rfl (lv_at hl 1 rfl) ?_
        refine lv_icmp_ge (tgt := 38) hx hb d_SlippedStreamsModel_plain_13 (by decide) (fun hc => ?_) (fun hc => ?_)
        · replace h := if_t hc h
          refine lv_iload_n hx hb d_SlippedStreamsModel_plain_38 rfl (lv_at hl 2 rfl) ?_
          exact q_iret hx hb hr hlocks h hP hD hS d_SlippedStreamsModel_plain_39
        · replace h := if_f hc h
          refine lv_aload_n hx hb d_SlippedStreamsModel_plain_16 rfl (lv_at hl 0 rfl) ?_
          refine mg_0_plainPlace hx hb hts hin_SlippedStreamsModel hown hK hP (hts _ k_836) (fun _ h9 => h9) d_SlippedStreamsModel_plain_17 ?_
          refine lv_aload_n hx hb d_SlippedStreamsModel_plain_20 rfl (lv_at hl 0 rfl) ?_
          refine mg_0_count hx hb hts hin_SlippedStreamsModel hown hK hP (hts _ k_813) (fun _ h9 => h9) d_SlippedStreamsModel_plain_21 ?_
          refine lv_icmp_ge (tgt := 38) hx hb d_SlippedStreamsModel_plain_24 (by decide) (fun hc => ?_) (fun hc => ?_)
          · replace h := if_t hc h
            refine lv_iload_n hx hb d_SlippedStreamsModel_plain_38 rfl (lv_at hl 2 rfl) ?_
            exact q_iret hx hb hr hlocks h hP hD hS d_SlippedStreamsModel_plain_39
          · replace h := if_f hc h
            refine lv_aload_n hx hb d_SlippedStreamsModel_plain_27 rfl (lv_at hl 0 rfl) ?_
            obtain ⟨r2, z2, hc2, h⟩ := obn_e h
            refine q_gov (va_runV (As := []) (rest := []) ⟨hx, hb, hml, hown, hts⟩ (c_m_plainStep l dC dI cI cZ ad z0 _ hc2 _) (cwV 0 hts (q_goodL _ (q_l4 k_1039 k_1041 k_51 k_64) k_1042) rfl rfl rfl (by decide +kernel) ⟨Nat.le_of_ble_eq_true rfl, Nat.le_of_ble_eq_true rfl⟩) (q_preV qok hKK hP hD (va_recv (ci := 9) (q0 := 0) hK hP rfl rfl)) rfl rfl hl.1 rfl (lv_room (Nat.le_of_ble_eq_true rfl)) d_SlippedStreamsModel_plain_28 ⟨Nat.le_refl _, Nat.le_refl _⟩) hD hS hA (fun H locs hP hD hS => ?_)
            refine lv_iload_n hx hb d_SlippedStreamsModel_plain_31 rfl (lv_at hl 2 rfl) ?_
            refine lv_iconst (v := 1) hx hb d_SlippedStreamsModel_plain_32 (by decide) ?_
            refine lv_iadd hx hb d_SlippedStreamsModel_plain_33 ?_
            refine lv_istore_n (lv' := [(2, .int (y2 + 1)), (0, .ref (ad 0)), (1, .int y1)]) hx hb d_SlippedStreamsModel_plain_34 rfl hl (by decide) rfl (fun ls hl => ?_)
            refine lv_goto (tgt := 11) hx hb d_SlippedStreamsModel_plain_35 (by decide) ?_
            exact jp_11 z2 y1 (y2 + 1) _ _ _ h hP hD hS (lv_sub hl [1, 2, 0] rfl)
  exact (key 4000).1 z0 x1 0 _ _ _ h hP hD hS (lv_sub hl [0, 1] rfl)
def m_outputs (z0 : ST) (x1 : Int32) : OR := if x1 = 0 then (some (z0.1 8, z0)) else (some (z0.1 9, z0))
set_option maxRecDepth 100000 in
set_option maxHeartbeats 4000000 in
theorem c_m_outputs (l : Launch) (dC : Nat → ClassId) (dI : Nat → Nat → Nat) (cI cZ : ClassId) (ad : Nat → Nat) (z0 : ST) (x1 : Int32) (R : Int32 × ST) (h : m_outputs z0 x1 = some R) : qMi l y_SlippedStreamsModel_outputs w_SlippedStreamsModel_outputs 0 0 (KX dC dI cI cZ) (dC, dI) q_cl (wM cI cZ ad) [.ref (ad 0), .int x1] z0 R := by
  intro sz
  refine Met.ofW (cc := b_SlippedStreamsModel_outputs) (maxL := 2) (ret := (some .int)) (by decide) rfl ?_
  intro p e s m args below meth c s₁ B hml hv
  obtain ⟨rfl, hsz, hP, hKK, hD0⟩ := hv
  have hx := B.exec
  have hb := B.bytes
  have hr := B.returns
  have hts : ∀ w ∈ q_big, w.before _ s = true := fun w h => atoms_spec (ws := w_SlippedStreamsModel_outputs) B.pre w (List.mem_cons_of_mem _ h)
  have hown : s.vm.findClass "SlippedStreamsModel" = some m.cls := findClass_of_methodNamed B.named
  have hlocks := B.notSynchronized
  subst hsz
  have hD := hD0.self (sz := s.heap.size)
  generalize hAe : va_A (wM cI cZ ad z0) s.heap.size = A at hD ⊢
  have hA : ∀ q : Nat, s.heap.size ≤ q → A q := fun q h => by rw [← hAe]; exact Or.inr h
  have hS : va_S A s.heap s.heap [] := va_S.rf
  have hK := hKK.1
  have hl := lv_entry ([.ref (ad 0), .int x1]) (n := 2) (Nat.le_of_ble_eq_true rfl)
  rw [lg_entry_eq]
  generalize (lg_sl ([.ref (ad 0), .int x1]) ++ List.replicate (2 - (lg_sl ([.ref (ad 0), .int x1])).length) Slot.unset).toArray = ls at hl ⊢
  have hl : lv_has ls 2 [(0, .ref (ad 0)), (1, .int x1)] := hl
  unfold m_outputs at h
  refine lv_iload_n hx hb d_SlippedStreamsModel_outputs_0 rfl (lv_at hl 1 rfl) ?_
  refine lv_if_eq (tgt := 11) hx hb d_SlippedStreamsModel_outputs_1 (by decide) (fun hc => ?_) (fun hc => ?_)
  · replace h := if_t hc h
    refine lv_aload_n hx hb d_SlippedStreamsModel_outputs_11 rfl (lv_at hl 0 rfl) ?_
    refine mg_0_streamOutputs hx hb hts hin_SlippedStreamsModel hown hK hP (hts _ k_838) (fun _ h9 => h9) d_SlippedStreamsModel_outputs_12 ?_
    exact q_iret hx hb hr hlocks h hP hD hS d_SlippedStreamsModel_outputs_15
  · replace h := if_f hc h
    refine lv_aload_n hx hb d_SlippedStreamsModel_outputs_4 rfl (lv_at hl 0 rfl) ?_
    refine mg_0_plainOutputs hx hb hts hin_SlippedStreamsModel hown hK hP (hts _ k_839) (fun _ h9 => h9) d_SlippedStreamsModel_outputs_5 ?_
    refine lv_goto (tgt := 15) hx hb d_SlippedStreamsModel_outputs_8 (by decide) ?_
    exact q_iret hx hb hr hlocks h hP hD hS d_SlippedStreamsModel_outputs_15
def m_output_15 (z0 : ST) (y1 y2 y3 : Int32) : OR := if y1 < 0 then (some (0, z0)) else (if y3 ≤ y1 then (some (0, z0)) else (if y1 ≤ 63 then (if y2 = 0 then (gin (0 + y1) 128 (some (z0.2 16 (0 + y1).toNatClampNeg, z0))) else (gin (64 + y1) 128 (some (z0.2 16 (64 + y1).toNatClampNeg, z0)))) else (some (0, z0))))
def m_output (z0 : ST) (x1 x2 : Int32) : OR := if x2 = 0 then (m_output_15 z0 x1 x2 (z0.1 8)) else (m_output_15 z0 x1 x2 (z0.1 9))
set_option maxRecDepth 100000 in
set_option maxHeartbeats 4000000 in
theorem c_m_output (l : Launch) (dC : Nat → ClassId) (dI : Nat → Nat → Nat) (cI cZ : ClassId) (ad : Nat → Nat) (z0 : ST) (x1 x2 : Int32) (R : Int32 × ST) (h : m_output z0 x1 x2 = some R) : qMi l y_SlippedStreamsModel_output w_SlippedStreamsModel_output 0 0 (KX dC dI cI cZ) (dC, dI) q_cl (wM cI cZ ad) [.ref (ad 0), .int x1, .int x2] z0 R := by
  intro sz
  refine Met.ofW (cc := b_SlippedStreamsModel_output) (maxL := 4) (ret := (some .int)) (by decide) rfl ?_
  intro p e s m args below meth c s₁ B hml hv
  obtain ⟨rfl, hsz, hP, hKK, hD0⟩ := hv
  have hx := B.exec
  have hb := B.bytes
  have hr := B.returns
  have hts : ∀ w ∈ q_big, w.before _ s = true := fun w h => atoms_spec (ws := w_SlippedStreamsModel_output) B.pre w (List.mem_cons_of_mem _ h)
  have hown : s.vm.findClass "SlippedStreamsModel" = some m.cls := findClass_of_methodNamed B.named
  have hlocks := B.notSynchronized
  subst hsz
  have hD := hD0.self (sz := s.heap.size)
  generalize hAe : va_A (wM cI cZ ad z0) s.heap.size = A at hD ⊢
  have hA : ∀ q : Nat, s.heap.size ≤ q → A q := fun q h => by rw [← hAe]; exact Or.inr h
  have hS : va_S A s.heap s.heap [] := va_S.rf
  have hK := hKK.1
  have hl := lv_entry ([.ref (ad 0), .int x1, .int x2]) (n := 4) (Nat.le_of_ble_eq_true rfl)
  rw [lg_entry_eq]
  generalize (lg_sl ([.ref (ad 0), .int x1, .int x2]) ++ List.replicate (4 - (lg_sl ([.ref (ad 0), .int x1, .int x2])).length) Slot.unset).toArray = ls at hl ⊢
  have hl : lv_has ls 4 [(0, .ref (ad 0)), (1, .int x1), (2, .int x2)] := hl
  have jp_15 : ∀ (z0 : ST) (y1 y2 y3 : Int32) (H : Heap) (locs : List Loc) (ls : Array Slot), m_output_15 z0 y1 y2 y3 = some R → va_P (dC, dI) q_cl (wM cI cZ ad z0) H → va_D A (wM cI cZ ad z0) → va_S A s.heap H locs → lv_has ls 4 [(0, .ref (ad 0)), (1, .int y1), (2, .int y2)] → qWi p l e w_SlippedStreamsModel_output 0 0 s m [.ref (ad 0), .int x1, .int x2] below meth c (dC, dI) q_cl (wM cI cZ ad) A R H locs (F0 m 15 ls [.int y3]) := by
    intro z0 y1 y2 y3 H locs ls h hP hD hS hl
    unfold m_output_15 at h
    refine lv_istore_n (lv' := [(3, .int y3), (0, .ref (ad 0)), (1, .int y1), (2, .int y2)]) hx hb d_SlippedStreamsModel_output_15 rfl hl (by decide) rfl (fun ls hl => ?_)
    refine lv_iload_n hx hb d_SlippedStreamsModel_output_16 rfl (lv_at hl 2 rfl) ?_
    refine lv_if_lt (tgt := 31) hx hb d_SlippedStreamsModel_output_17 (by decide) (fun hc => ?_) (fun hc => ?_)
    · replace h := if_t hc h
      refine lv_iconst (v := 0) hx hb d_SlippedStreamsModel_output_31 (by decide) ?_
      refine lv_goto (tgt := 52) hx hb d_SlippedStreamsModel_output_32 (by decide) ?_
      exact q_iret hx hb hr hlocks h hP hD hS d_SlippedStreamsModel_output_52
    · replace h := if_f hc h
      refine lv_iload_n hx hb d_SlippedStreamsModel_output_20 rfl (lv_at hl 2 rfl) ?_
      refine lv_iload_n hx hb d_SlippedStreamsModel_output_21 rfl (lv_at hl 0 rfl) ?_
      refine lv_icmp_ge (tgt := 31) hx hb d_SlippedStreamsModel_output_22 (by decide) (fun hc => ?_) (fun hc => ?_)
      · replace h := if_t hc h
        refine lv_iconst (v := 0) hx hb d_SlippedStreamsModel_output_31 (by decide) ?_
        refine lv_goto (tgt := 52) hx hb d_SlippedStreamsModel_output_32 (by decide) ?_
        exact q_iret hx hb hr hlocks h hP hD hS d_SlippedStreamsModel_output_52
      · replace h := if_f hc h
        refine lv_iload_n hx hb d_SlippedStreamsModel_output_25 rfl (lv_at hl 2 rfl) ?_
        refine lv_bipush (v := 63) hx hb d_SlippedStreamsModel_output_26 (by decide) ?_
        refine lv_icmp_le (tgt := 35) hx hb d_SlippedStreamsModel_output_28 (by decide) (fun hc => ?_) (fun hc => ?_)
        · replace h := if_t hc h
          refine lv_aload_n hx hb d_SlippedStreamsModel_output_35 rfl (lv_at hl 1 rfl) ?_
          refine mg_0_written hx hb hts hin_SlippedStreamsModel hown hK hP (hts _ k_837) (fun _ h9 => h9) d_SlippedStreamsModel_output_36 ?_
          refine lv_iload_n hx hb d_SlippedStreamsModel_output_39 rfl (lv_at hl 3 rfl) ?_
          refine lv_if_eq (tgt := 48) hx hb d_SlippedStreamsModel_output_40 (by decide) (fun hc => ?_) (fun hc => ?_)
          · replace h := if_t hc h
            refine lv_iconst (v := 0) hx hb d_SlippedStreamsModel_output_48 (by decide) ?_
            refine lv_iload_n hx hb d_SlippedStreamsModel_output_49 rfl (lv_at hl 2 rfl) ?_
            refine lv_iadd hx hb d_SlippedStreamsModel_output_50 ?_
            obtain ⟨hi, h⟩ := gin_e h
            refine ml_16 hx hb hK hP hi d_SlippedStreamsModel_output_51 ?_
            exact q_iret hx hb hr hlocks h hP hD hS d_SlippedStreamsModel_output_52
          · replace h := if_f hc h
            refine lv_bipush (v := 64) hx hb d_SlippedStreamsModel_output_43 (by decide) ?_
            refine lv_goto (tgt := 49) hx hb d_SlippedStreamsModel_output_45 (by decide) ?_
            refine lv_iload_n hx hb d_SlippedStreamsModel_output_49 rfl (lv_at hl 2 rfl) ?_
            refine lv_iadd hx hb d_SlippedStreamsModel_output_50 ?_
            obtain ⟨hi, h⟩ := gin_e h
            refine ml_16 hx hb hK hP hi d_SlippedStreamsModel_output_51 ?_
            exact q_iret hx hb hr hlocks h hP hD hS d_SlippedStreamsModel_output_52
        · replace h := if_f hc h
          refine lv_iconst (v := 0) hx hb d_SlippedStreamsModel_output_31 (by decide) ?_
          refine lv_goto (tgt := 52) hx hb d_SlippedStreamsModel_output_32 (by decide) ?_
          exact q_iret hx hb hr hlocks h hP hD hS d_SlippedStreamsModel_output_52
  unfold m_output at h
  refine lv_iload_n hx hb d_SlippedStreamsModel_output_0 rfl (lv_at hl 2 rfl) ?_
  refine lv_if_eq (tgt := 11) hx hb d_SlippedStreamsModel_output_1 (by decide) (fun hc => ?_) (fun hc => ?_)
  · replace h := if_t hc h
    refine lv_aload_n hx hb d_SlippedStreamsModel_output_11 rfl (lv_at hl 0 rfl) ?_
    refine mg_0_streamOutputs hx hb hts hin_SlippedStreamsModel hown hK hP (hts _ k_838) (fun _ h9 => h9) d_SlippedStreamsModel_output_12 ?_
    exact jp_15 z0 x1 x2 (z0.1 8) _ _ _ h hP hD hS (lv_sub hl [0, 1, 2] rfl)
  · replace h := if_f hc h
    refine lv_aload_n hx hb d_SlippedStreamsModel_output_4 rfl (lv_at hl 0 rfl) ?_
    refine mg_0_plainOutputs hx hb hts hin_SlippedStreamsModel hown hK hP (hts _ k_839) (fun _ h9 => h9) d_SlippedStreamsModel_output_5 ?_
    refine lv_goto (tgt := 15) hx hb d_SlippedStreamsModel_output_8 (by decide) ?_
    exact jp_15 z0 x1 x2 (z0.1 9) _ _ _ h hP hD hS (lv_sub hl [0, 1, 2] rfl)
