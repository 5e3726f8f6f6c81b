def m_drain_g0 (k : Nat → ST → Int32 → OR) (z0 : ST) (y1 : Int32) : OR := if (z0.1 6) ≤ 0 then (some (0, z0)) else (gin 0 6 (if (z0.2 13 (0 : Int32).toNatClampNeg) = 0 then (some (0, z0)) else (gin 0 6 (gin 0 6 (gin (z0.2 11 (0 : Int32).toNatClampNeg) 32 (bnd (stA z0 8 (upd (z0.2 8) (z0.2 11 (0 : Int32).toNatClampNeg).toNatClampNeg (z0.2 12 (0 : Int32).toNatClampNeg))) (fun z1 => bnd (stI z1 6 ((z1.1 6) - 1)) (fun z2 => k 1 z2 0))))))))
def m_drain_g45 (k : Nat → ST → Int32 → OR) (z0 : ST) (y1 : Int32) : OR := if (z0.1 6) ≤ y1 then (k 0 z0 0) else (gin (y1 + 1) 6 (gin y1 6 (bnd (stA z0 11 (upd (z0.2 11) y1.toNatClampNeg (z0.2 11 (y1 + 1).toNatClampNeg))) (fun z3 => gin (y1 + 1) 6 (gin y1 6 (bnd (stA z3 12 (upd (z3.2 12) y1.toNatClampNeg (z3.2 12 (y1 + 1).toNatClampNeg))) (fun z4 => gin (y1 + 1) 6 (gin y1 6 (gib (z4.2 13 (y1 + 1).toNatClampNeg) (bnd (stA z4 13 (upd (z4.2 13) y1.toNatClampNeg (z4.2 13 (y1 + 1).toNatClampNeg))) (fun z5 => k 1 z5 (y1 + 1))))))))))))
def m_drain_g (k : Nat → ST → Int32 → OR) (n : Nat) : ST → Int32 → OR := match n with
  | 0 => m_drain_g0 k
  | 1 => m_drain_g45 k
  | _ => fun _ _ => none
def m_drain_f : Nat → Nat → ST → Int32 → OR
  | 0 => fun _ _ _ => none
  | n + 1 => m_drain_g (m_drain_f n)
def m_drain (z0 : ST) : OR := m_drain_f 4000 0 z0 0
set_option maxRecDepth 100000 in
set_option maxHeartbeats 4000000 in
theorem c_m_drain (l : Launch) (dC : Nat → ClassId) (dI : Nat → Nat → Nat) (cI cZ : ClassId) (ad : Nat → Nat) (z0 : ST) (R : Int32 × ST) (h : m_drain z0 = some R) : qMv l y_SlippedStreamsModel_drain w_SlippedStreamsModel_drain 0 0 (KX dC dI cI cZ) (dC, dI) q_cl (wM cI cZ ad) [.ref (ad 0)] z0 R := by
  intro sz
  refine Met.ofW (cc := b_SlippedStreamsModel_drain) (maxL := 2) (ret := none) (by decide) rfl ?_
  intro p e s m args below meth c s₁ B hml hv
  obtain ⟨rfl, hsz, hP, hKK, hD0⟩ := hv
  have hx := B.exec
  have hb := B.bytes
  have hr := B.returns
  have hts : ∀ w ∈ q_big, w.before _ s = true := fun w h => atoms_spec (ws := w_SlippedStreamsModel_drain) B.pre w (List.mem_cons_of_mem _ h)
  have hown : s.vm.findClass "SlippedStreamsModel" = some m.cls := findClass_of_methodNamed B.named
  have hlocks := B.notSynchronized
  subst hsz
  have hD := hD0.self (sz := s.heap.size)
  generalize hAe : va_A (wM cI cZ ad z0) s.heap.size = A at hD ⊢
  have hA : ∀ q : Nat, s.heap.size ≤ q → A q := fun q h => by rw [← hAe]; exact Or.inr h
  have hS : va_S A s.heap s.heap [] := va_S.rf
  have hK := hKK.1
  have hl := lv_entry ([.ref (ad 0)]) (n := 2) (Nat.le_of_ble_eq_true rfl)
  rw [lg_entry_eq]
  generalize (lg_sl ([.ref (ad 0)]) ++ List.replicate (2 - (lg_sl ([.ref (ad 0)])).length) Slot.unset).toArray = ls at hl ⊢
  have hl : lv_has ls 2 [(0, .ref (ad 0))] := hl
  have key : ∀ n : Nat, (∀ (z0 : ST) (y1 : Int32) (H : Heap) (locs : List Loc) (ls : Array Slot), m_drain_f n 0 z0 y1 = some R → va_P (dC, dI) q_cl (wM cI cZ ad z0) H → va_D A (wM cI cZ ad z0) → va_S A s.heap H locs → lv_has ls 2 [(0, .ref (ad 0))] → qWv p l e w_SlippedStreamsModel_drain 0 0 s m [.ref (ad 0)] below meth c (dC, dI) q_cl (wM cI cZ ad) A R H locs (F0 m 0 ls [])) ∧ (∀ (z0 : ST) (y1 : Int32) (H : Heap) (locs : List Loc) (ls : Array Slot), m_drain_f n 1 z0 y1 = some R → va_P (dC, dI) q_cl (wM cI cZ ad z0) H → va_D A (wM cI cZ ad z0) → va_S A s.heap H locs → lv_has ls 2 [(0, .ref (ad 0)), (1, .int y1)] → qWv p l e w_SlippedStreamsModel_drain 0 0 s m [.ref (ad 0)] below meth c (dC, dI) q_cl (wM cI cZ ad) A R H locs (F0 m 45 ls [])) := by
    intro n
    induction n with
    | zero => exact ⟨fun z0 y1 H locs ls h hP hD hS hl => (by cases h), fun z0 y1 H locs ls h hP hD hS hl => (by cases h)⟩
    | succ n ih =>
      obtain ⟨jp_0, jp_45⟩ := ih
      refine ⟨?_, ?_⟩
      · intro z0 y1 H locs ls h hP hD hS hl
        replace h : m_drain_g0 (m_drain_f n) z0 y1 = some R := h
        unfold m_drain_g0 at h
        refine lv_aload_n hx hb d_SlippedStreamsModel_drain_0 rfl (lv_at hl 0 rfl) ?_
        refine mg_0_stores hx hb hts hin_SlippedStreamsModel hown hK hP (hts _ k_830) (fun _ h9 => h9) d_SlippedStreamsModel_drain_1 ?_
        refine lv_if_le (tgt := 104) hx hb d_SlippedStreamsModel_drain_4 (by decide) (fun hc => ?_) (fun hc => ?_)
        · replace h := if_t hc h
          exact q_vret hx hb hr hlocks h hP hD hS d_SlippedStreamsModel_drain_104
        · replace h := if_f hc h
          refine lv_aload_n hx hb d_SlippedStreamsModel_drain_7 rfl (lv_at hl 0 rfl) ?_
          refine mg_0_storeThere hx hb hts hin_SlippedStreamsModel hown hK hP (hts _ k_833) (fun _ h9 => h9) d_SlippedStreamsModel_drain_8 ?_
          refine lv_iconst (v := 0) hx hb d_SlippedStreamsModel_drain_11 (by decide) ?_
          obtain ⟨hi, h⟩ := gin_e h
          refine ml_13 hx hb hK hP hi d_SlippedStreamsModel_drain_12 ?_
          refine lv_if_eq (tgt := 104) hx hb d_SlippedStreamsModel_drain_13 (by decide) (fun hc => ?_) (fun hc => ?_)
          · replace h := if_t hc h
            exact q_vret hx hb hr hlocks h hP hD hS d_SlippedStreamsModel_drain_104
          · replace h := if_f hc h
            refine lv_aload_n hx hb d_SlippedStreamsModel_drain_16 rfl (lv_at hl 0 rfl) ?_
            refine mg_0_memory hx hb hts hin_SlippedStreamsModel hown hK hP (hts _ k_825) (fun _ h9 => h9) d_SlippedStreamsModel_drain_17 ?_
            refine lv_aload_n hx hb d_SlippedStreamsModel_drain_20 rfl (lv_at hl 0 rfl) ?_
            refine mg_0_storeAt hx hb hts hin_SlippedStreamsModel hown hK hP (hts _ k_831) (fun _ h9 => h9) d_SlippedStreamsModel_drain_21 ?_
            refine lv_iconst (v := 0) hx hb d_SlippedStreamsModel_drain_24 (by decide) ?_
            obtain ⟨hi, h⟩ := gin_e h
            refine ml_11 hx hb hK hP hi d_SlippedStreamsModel_drain_25 ?_
            refine lv_aload_n hx hb d_SlippedStreamsModel_drain_26 rfl (lv_at hl 0 rfl) ?_
            refine mg_0_storeWord hx hb hts hin_SlippedStreamsModel hown hK hP (hts _ k_832) (fun _ h9 => h9) d_SlippedStreamsModel_drain_27 ?_
            refine lv_iconst (v := 0) hx hb d_SlippedStreamsModel_drain_30 (by decide) ?_
            obtain ⟨hi, h⟩ := gin_e h
            refine ml_12 hx hb hK hP hi d_SlippedStreamsModel_drain_31 ?_
            obtain ⟨hi, h⟩ := gin_e h
            obtain ⟨z1, e1, h⟩ := bnd_e h
            refine ms_8 hx hb hK hP hD hS hi d_SlippedStreamsModel_drain_32 e1 (fun H locs hP hD hS => ?_)
            refine lv_aload_n hx hb d_SlippedStreamsModel_drain_33 rfl (lv_at hl 0 rfl) ?_
            refine lv_aload_n hx hb d_SlippedStreamsModel_drain_34 rfl (lv_at hl 0 rfl) ?_
            refine mg_0_stores hx hb hts hin_SlippedStreamsModel hown hK hP (hts _ k_830) (fun _ h9 => h9) d_SlippedStreamsModel_drain_35 ?_
            refine lv_iconst (v := 1) hx hb d_SlippedStreamsModel_drain_38 (by decide) ?_
            refine lv_isub hx hb d_SlippedStreamsModel_drain_39 ?_
            obtain ⟨z2, e2, h⟩ := bnd_e h
            refine mp_0_stores hx hb hts hin_SlippedStreamsModel hown hK hP hD hS (hts _ k_830) (fun _ h9 => h9) d_SlippedStreamsModel_drain_40 e2 (fun H locs hP hD hS => ?_)
            refine lv_iconst (v := 0) hx hb d_SlippedStreamsModel_drain_43 (by decide) ?_
            refine lv_istore_n (lv' := [(1, .int 0), (0, .ref (ad 0))]) hx hb d_SlippedStreamsModel_drain_44 rfl hl (by decide) rfl (fun ls hl => ?_)
            exact jp_45 z2 0 _ _ _ h hP hD hS (lv_sub hl [1, 0] rfl)
      · intro z0 y1 H locs ls h hP hD hS hl
        replace h : m_drain_g45 (m_drain_f n) z0 y1 = some R := h
        unfold m_drain_g45 at h
        refine lv_iload_n hx hb d_SlippedStreamsModel_drain_45 rfl (lv_at hl 1 rfl) ?_
        refine lv_aload_n hx hb d_SlippedStreamsModel_drain_46 rfl (lv_at hl 0 rfl) ?_
        refine mg_0_stores hx hb hts hin_SlippedStreamsModel hown hK hP (hts _ k_830) (fun _ h9 => h9) d_SlippedStreamsModel_drain_47 ?_
        refine lv_icmp_ge (tgt := 101) hx hb d_SlippedStreamsModel_drain_50 (by decide) (fun hc => ?_) (fun hc => ?_)
        · replace h := if_t hc h
          refine lv_goto (tgt := 0) hx hb d_SlippedStreamsModel_drain_101 (by decide) ?_
          exact jp_0 z0 0 _ _ _ h hP hD hS (lv_sub hl [0] rfl)
        · replace h := if_f hc h
          refine lv_aload_n hx hb d_SlippedStreamsModel_drain_53 rfl (lv_at hl 0 rfl) ?_
          refine mg_0_storeAt hx hb hts hin_SlippedStreamsModel hown hK hP (hts _ k_831) (fun _ h9 => h9) d_SlippedStreamsModel_drain_54 ?_
          refine lv_iload_n hx hb d_SlippedStreamsModel_drain_57 rfl (lv_at hl 1 rfl) ?_
          refine lv_aload_n hx hb d_SlippedStreamsModel_drain_58 rfl (lv_at hl 0 rfl) ?_
          refine mg_0_storeAt hx hb hts hin_SlippedStreamsModel hown hK hP (hts _ k_831) (fun _ h9 => h9) d_SlippedStreamsModel_drain_59 ?_
          refine lv_iload_n hx hb d_SlippedStreamsModel_drain_62 rfl (lv_at hl 1 rfl) ?_
          refine lv_iconst (v := 1) hx hb d_SlippedStreamsModel_drain_63 (by decide) ?_
          refine lv_iadd hx hb d_SlippedStreamsModel_drain_64 ?_
          obtain ⟨hi, h⟩ := gin_e h
          refine ml_11 hx hb hK hP hi d_SlippedStreamsModel_drain_65 ?_
          obtain ⟨hi, h⟩ := gin_e h
          obtain ⟨z3, e3, h⟩ := bnd_e h
          refine ms_11 hx hb hK hP hD hS hi d_SlippedStreamsModel_drain_66 e3 (fun H locs hP hD hS => ?_)
          refine lv_aload_n hx hb d_SlippedStreamsModel_drain_67 rfl (lv_at hl 0 rfl) ?_
          refine mg_0_storeWord hx hb hts hin_SlippedStreamsModel hown hK hP (hts _ k_832) (fun _ h9 => h9) d_SlippedStreamsModel_drain_68 ?_
          refine lv_iload_n hx hb d_SlippedStreamsModel_drain_71 rfl (lv_at hl 1 rfl) ?_
          refine lv_aload_n hx hb d_SlippedStreamsModel_drain_72 rfl (lv_at hl 0 rfl) ?_
          refine mg_0_storeWord hx hb hts hin_SlippedStreamsModel hown hK hP (hts _ k_832) (fun _ h9 => h9) d_SlippedStreamsModel_drain_73 ?_
          refine lv_iload_n hx hb d_SlippedStreamsModel_drain_76 rfl (lv_at hl 1 rfl) ?_
          refine lv_iconst (v := 1) hx hb d_SlippedStreamsModel_drain_77 (by decide) ?_
          refine lv_iadd hx hb d_SlippedStreamsModel_drain_78 ?_
          obtain ⟨hi, h⟩ := gin_e h
          refine ml_12 hx hb hK hP hi d_SlippedStreamsModel_drain_79 ?_
          obtain ⟨hi, h⟩ := gin_e h
          obtain ⟨z4, e4, h⟩ := bnd_e h
          refine ms_12 hx hb hK hP hD hS hi d_SlippedStreamsModel_drain_80 e4 (fun H locs hP hD hS => ?_)
          refine lv_aload_n hx hb d_SlippedStreamsModel_drain_81 rfl (lv_at hl 0 rfl) ?_
          refine mg_0_storeThere hx hb hts hin_SlippedStreamsModel hown hK hP (hts _ k_833) (fun _ h9 => h9) d_SlippedStreamsModel_drain_82 ?_
          refine lv_iload_n hx hb d_SlippedStreamsModel_drain_85 rfl (lv_at hl 1 rfl) ?_
          refine lv_aload_n hx hb d_SlippedStreamsModel_drain_86 rfl (lv_at hl 0 rfl) ?_
          refine mg_0_storeThere hx hb hts hin_SlippedStreamsModel hown hK hP (hts _ k_833) (fun _ h9 => h9) d_SlippedStreamsModel_drain_87 ?_
          refine lv_iload_n hx hb d_SlippedStreamsModel_drain_90 rfl (lv_at hl 1 rfl) ?_
          refine lv_iconst (v := 1) hx hb d_SlippedStreamsModel_drain_91 (by decide) ?_
          refine lv_iadd hx hb d_SlippedStreamsModel_drain_92 ?_
          obtain ⟨hi, h⟩ := gin_e h
          refine ml_13 hx hb hK hP hi d_SlippedStreamsModel_drain_93 ?_
          obtain ⟨hi, h⟩ := gin_e h
          obtain ⟨hv, h⟩ := gib_e h
          obtain ⟨z5, e5, h⟩ := bnd_e h
          refine ms_13 hx hb hK hP hD hS hi hv d_SlippedStreamsModel_drain_94 e5 (fun H locs hP hD hS => ?_)
          refine lv_iinc (k := 1) (v := y1 + 1) (lv' := [(1, .int (y1 + 1)), (0, .ref (ad 0))]) hx hb d_SlippedStreamsModel_drain_95 hl rfl rfl (by decide) rfl (fun ls hl => ?_)
          refine lv_goto (tgt := 45) hx hb d_SlippedStreamsModel_drain_98 (by decide) ?_
          exact jp_45 z5 (y1 + 1) _ _ _ h hP hD hS (lv_sub hl [1, 0] rfl)
  exact (key 4000).1 z0 0 _ _ _ h hP hD hS (lv_sub hl [0] rfl)
def m_store_124 (z0 : ST) (y1 y2 y3 y4 : Int32) : OR := gin y3 6 (bnd (stA z0 12 (upd (z0.2 12) y3.toNatClampNeg y4)) (fun z1 => bnd (stI z1 6 ((z1.1 6) + 1)) (fun z2 => obn (m_drain z2) (fun r3 z3 => obn (m_leave z3 0 (y1 + 1)) (fun r4 z4 => gib 1 (some (1, z4)))))))
def m_store_79 (z0 : ST) (y1 y2 y3 y4 : Int32) : OR := gin y3 6 (gib y4 (bnd (stA z0 13 (upd (z0.2 13) y3.toNatClampNeg y4)) (fun z5 => if y2 = 0 then (gin 1 5 (if (z5.2 10 (1 : Int32).toNatClampNeg) ≤ 0 then (m_store_124 z5 y1 y2 (z5.1 6) 0) else (obn (m_take z5 1) (fun r6 z6 => m_store_124 z6 y1 y2 (z5.1 6) r6)))) else (gin y1 24 (gin (z5.2 1 y1.toNatClampNeg) 16 (m_store_124 z5 y1 y2 (z5.1 6) (z5.2 5 (z5.2 1 y1.toNatClampNeg).toNatClampNeg)))))))
def m_store_74 (z0 : ST) (y1 y2 y3 : Int32) : OR := m_store_79 z0 y1 y2 y3 1
def m_store (z0 : ST) (x1 : Int32) : OR := if (z0.1 6) = 6 then (gib 0 (some (0, z0))) else (gin x1 24 (gin (z0.2 1 x1.toNatClampNeg) 8 (gin x1 24 (gin (z0.2 2 x1.toNatClampNeg) 16 (gin x1 24 (gin (z0.1 6) 6 (bnd (stA z0 11 (upd (z0.2 11) (z0.1 6).toNatClampNeg (((z0.2 5 (z0.2 2 x1.toNatClampNeg).toNatClampNeg) + (z0.2 3 x1.toNatClampNeg)) &&& 31))) (fun z7 => if (z0.2 4 (z0.2 1 x1.toNatClampNeg).toNatClampNeg) = 0 then (gin 1 5 (if (z7.2 10 (1 : Int32).toNatClampNeg) ≤ 0 then (m_store_79 z7 x1 (z0.2 4 (z0.2 1 x1.toNatClampNeg).toNatClampNeg) (z7.1 6) 0) else (m_store_74 z7 x1 (z0.2 4 (z0.2 1 x1.toNatClampNeg).toNatClampNeg) (z7.1 6)))) else (m_store_74 z7 x1 (z0.2 4 (z0.2 1 x1.toNatClampNeg).toNatClampNeg) (z7.1 6))))))))))
set_option maxRecDepth 100000 in
set_option maxHeartbeats 4000000 in
theorem c_m_store (l : Launch) (dC : Nat → ClassId) (dI : Nat → Nat → Nat) (cI cZ : ClassId) (ad : Nat → Nat) (z0 : ST) (x1 : Int32) (R : Int32 × ST) (h : m_store z0 x1 = some R) : qMi l y_SlippedStreamsModel_store w_SlippedStreamsModel_store 7 156 (KX dC dI cI cZ) (dC, dI) q_cl (wM cI cZ ad) [.ref (ad 0), .int x1] z0 R := by
  intro sz
  refine Met.ofW (cc := b_SlippedStreamsModel_store) (maxL := 3) (ret := (some .boolean)) (by decide) rfl ?_
  intro p e s m args below meth c s₁ B hml hv
  obtain ⟨rfl, hsz, hP, hKK, hD0⟩ := hv
  have hx := B.exec
  have hb := B.bytes
  have hr := B.returns
  have hts : ∀ w ∈ q_big, w.before _ s = true := fun w h => atoms_spec (ws := w_SlippedStreamsModel_store) B.pre w (List.mem_cons_of_mem _ h)
  have hown : s.vm.findClass "SlippedStreamsModel" = some m.cls := findClass_of_methodNamed B.named
  have hlocks := B.notSynchronized
  subst hsz
  have hD := hD0.self (sz := s.heap.size)
  generalize hAe : va_A (wM cI cZ ad z0) s.heap.size = A at hD ⊢
  have hA : ∀ q : Nat, s.heap.size ≤ q → A q := fun q h => by rw [← hAe]; exact Or.inr h
  have hS : va_S A s.heap s.heap [] := va_S.rf
  have hK := hKK.1
  have hl := lv_entry ([.ref (ad 0), .int x1]) (n := 3) (Nat.le_of_ble_eq_true rfl)
  rw [lg_entry_eq]
  generalize (lg_sl ([.ref (ad 0), .int x1]) ++ List.replicate (3 - (lg_sl ([.ref (ad 0), .int x1])).length) Slot.unset).toArray = ls at hl ⊢
  have hl : lv_has ls 3 [(0, .ref (ad 0)), (1, .int x1)] := hl
  have jp_124 : ∀ (z0 : ST) (y1 y2 y3 y4 : Int32) (H : Heap) (locs : List Loc) (ls : Array Slot), m_store_124 z0 y1 y2 y3 y4 = some R → va_P (dC, dI) q_cl (wM cI cZ ad z0) H → va_D A (wM cI cZ ad z0) → va_S A s.heap H locs → lv_has ls 3 [(0, .ref (ad 0)), (1, .int y1), (2, .int y2)] → qWi p l e w_SlippedStreamsModel_store 7 156 s m [.ref (ad 0), .int x1] below meth c (dC, dI) q_cl (wM cI cZ ad) A R H locs (F0 m 124 ls [.int y4, .int y3, .ref (ad 13)]) := by
    intro z0 y1 y2 y3 y4 H locs ls h hP hD hS hl
    unfold m_store_124 at h
    obtain ⟨hi, h⟩ := gin_e h
    obtain ⟨z1, e1, h⟩ := bnd_e h
    refine ms_12 hx hb hK hP hD hS hi d_SlippedStreamsModel_store_124 e1 (fun H locs hP hD hS => ?_)
    refine lv_aload_n hx hb d_SlippedStreamsModel_store_125 rfl (lv_at hl 0 rfl) ?_
    refine lv_aload_n hx hb d_SlippedStreamsModel_store_126 rfl (lv_at hl 0 rfl) ?_
    refine mg_0_stores hx hb hts hin_SlippedStreamsModel hown hK hP (hts _ k_830) (fun _ h9 => h9) d_SlippedStreamsModel_store_127 ?_
    refine lv_iconst (v := 1) hx hb d_SlippedStreamsModel_store_130 (by decide) ?_
    refine lv_iadd hx hb d_SlippedStreamsModel_store_131 ?_
    obtain ⟨z2, e2, h⟩ := bnd_e h
    refine mp_0_stores hx hb hts hin_SlippedStreamsModel hown hK hP hD hS (hts _ k_830) (fun _ h9 => h9) d_SlippedStreamsModel_store_132 e2 (fun H locs hP hD hS => ?_)
    refine lv_aload_n hx hb d_SlippedStreamsModel_store_135 rfl (lv_at hl 0 rfl) ?_
    obtain ⟨r3, z3, hc3, h⟩ := obn_e h
    refine q_gov (va_runV (As := []) (rest := []) ⟨hx, hb, hml, hown, hts⟩ (c_m_drain l dC dI cI cZ ad z2 _ hc3 _) (cwV 0 hts (q_goodL _ (q_l4 k_989 k_991 k_43 k_64) k_992) rfl rfl rfl (by decide +kernel) ⟨Nat.le_of_ble_eq_true rfl, Nat.le_of_ble_eq_true rfl⟩) (q_preV qok hKK hP hD (va_recv (ci := 9) (q0 := 0) hK hP rfl rfl)) rfl rfl hl.1 rfl (lv_room (Nat.le_of_ble_eq_true rfl)) d_SlippedStreamsModel_store_136 ⟨Nat.le_refl _, Nat.le_refl _⟩) hD hS hA (fun H locs hP hD hS => ?_)
    refine lv_aload_n hx hb d_SlippedStreamsModel_store_139 rfl (lv_at hl 0 rfl) ?_
    refine lv_iconst (v := 0) hx hb d_SlippedStreamsModel_store_140 (by decide) ?_
    refine lv_iload_n hx hb d_SlippedStreamsModel_store_141 rfl (lv_at hl 1 rfl) ?_
    refine lv_iconst (v := 1) hx hb d_SlippedStreamsModel_store_142 (by decide) ?_
    refine lv_iadd hx hb d_SlippedStreamsModel_store_143 ?_
    obtain ⟨r4, z4, hc4, h⟩ := obn_e h
    refine q_gov (va_runV (As := [.int 0, .int (y1 + 1)]) (rest := []) ⟨hx, hb, hml, hown, hts⟩ (c_m_leave l dC dI cI cZ ad z3 0 (y1 + 1) _ hc4 _) (cwV 2 hts (q_goodL _ (q_l4 k_977 k_979 k_40 k_64) k_980) rfl rfl rfl (by decide +kernel) ⟨Nat.le_of_ble_eq_true rfl, Nat.le_of_ble_eq_true rfl⟩) (q_preV qok hKK hP hD (va_recv (ci := 9) (q0 := 0) hK hP rfl rfl)) rfl rfl hl.1 rfl (lv_room (Nat.le_of_ble_eq_true rfl)) d_SlippedStreamsModel_store_144 ⟨Nat.le_refl _, Nat.le_refl _⟩) hD hS hA (fun H locs hP hD hS => ?_)
    refine lv_iconst (v := 1) hx hb d_SlippedStreamsModel_store_147 (by decide) ?_
    exact q_zret hx hb hr hlocks h hP hD hS d_SlippedStreamsModel_store_148
  have jp_79 : ∀ (z0 : ST) (y1 y2 y3 y4 : Int32) (H : Heap) (locs : List Loc) (ls : Array Slot), m_store_79 z0 y1 y2 y3 y4 = some R → va_P (dC, dI) q_cl (wM cI cZ ad z0) H → va_D A (wM cI cZ ad z0) → va_S A s.heap H locs → lv_has ls 3 [(0, .ref (ad 0)), (1, .int y1), (2, .int y2)] → qWi p l e w_SlippedStreamsModel_store 7 156 s m [.ref (ad 0), .int x1] below meth c (dC, dI) q_cl (wM cI cZ ad) A R H locs (F0 m 79 ls [.int y4, .int y3, .ref (ad 14)]) := by
    intro z0 y1 y2 y3 y4 H locs ls h hP hD hS hl
    unfold m_store_79 at h
    obtain ⟨hi, h⟩ := gin_e h
    obtain ⟨hv, h⟩ := gib_e h
    obtain ⟨z5, e5, h⟩ := bnd_e h
    refine ms_13 hx hb hK hP hD hS hi hv d_SlippedStreamsModel_store_79 e5 (fun H locs hP hD hS => ?_)
    refine lv_aload_n hx hb d_SlippedStreamsModel_store_80 rfl (lv_at hl 0 rfl) ?_
    refine mg_0_storeWord hx hb hts hin_SlippedStreamsModel hown hK hP (hts _ k_832) (fun _ h9 => h9) d_SlippedStreamsModel_store_81 ?_
    refine lv_aload_n hx hb d_SlippedStreamsModel_store_84 rfl (lv_at hl 0 rfl) ?_
    refine mg_0_stores hx hb hts hin_SlippedStreamsModel hown hK hP (hts _ k_830) (fun _ h9 => h9) d_SlippedStreamsModel_store_85 ?_
    refine lv_iload_n hx hb d_SlippedStreamsModel_store_88 rfl (lv_at hl 2 rfl) ?_
    refine lv_if_eq (tgt := 106) hx hb d_SlippedStreamsModel_store_89 (by decide) (fun hc => ?_) (fun hc => ?_)
    · replace h := if_t hc h
      refine lv_aload_n hx hb d_SlippedStreamsModel_store_106 rfl (lv_at hl 0 rfl) ?_
      refine mg_0_lengths hx hb hts hin_SlippedStreamsModel hown hK hP (hts _ k_829) (fun _ h9 => h9) d_SlippedStreamsModel_store_107 ?_
      refine lv_iconst (v := 1) hx hb d_SlippedStreamsModel_store_110 (by decide) ?_
      obtain ⟨hi, h⟩ := gin_e h
      refine ml_10 hx hb hK hP hi d_SlippedStreamsModel_store_111 ?_
      refine lv_if_le (tgt := 123) hx hb d_SlippedStreamsModel_store_112 (by decide) (fun hc => ?_) (fun hc => ?_)
      · replace h := if_t hc h
        refine lv_iconst (v := 0) hx hb d_SlippedStreamsModel_store_123 (by decide) ?_
        exact jp_124 z5 y1 y2 (z5.1 6) 0 _ _ _ h hP hD hS (lv_sub hl [0, 1, 2] rfl)
      · replace h := if_f hc h
        refine lv_aload_n hx hb d_SlippedStreamsModel_store_115 rfl (lv_at hl 0 rfl) ?_
        refine lv_iconst (v := 1) hx hb d_SlippedStreamsModel_store_116 (by decide) ?_
        obtain ⟨r6, z6, hc6, h⟩ := obn_e h
        refine q_goi (va_runV (As := [.int 1]) (rest := [.int (z5.1 6), .ref (ad 13)]) ⟨hx, hb, hml, hown, hts⟩ (c_m_take l dC dI cI cZ ad z5 1 _ hc6 _) (cwV 1 hts (q_goodL _ (q_l4 k_985 k_987 k_42 k_64) k_988) rfl rfl rfl (by decide +kernel) ⟨Nat.le_of_ble_eq_true rfl, Nat.le_of_ble_eq_true rfl⟩) (q_preV qok hKK hP hD (va_recv (ci := 9) (q0 := 0) hK hP rfl rfl)) rfl rfl hl.1 rfl (lv_room (Nat.le_of_ble_eq_true rfl)) d_SlippedStreamsModel_store_117 ⟨Nat.le_refl _, Nat.le_refl _⟩) hD hS hA (fun H locs hP hD hS => ?_)
        refine lv_goto (tgt := 124) hx hb d_SlippedStreamsModel_store_120 (by decide) ?_
        exact jp_124 z6 y1 y2 (z5.1 6) r6 _ _ _ h hP hD hS (lv_sub hl [0, 1, 2] rfl)
    · replace h := if_f hc h
      refine lv_aload_n hx hb d_SlippedStreamsModel_store_92 rfl (lv_at hl 0 rfl) ?_
      refine mg_0_registers hx hb hts hin_SlippedStreamsModel hown hK hP (hts _ k_821) (fun _ h9 => h9) d_SlippedStreamsModel_store_93 ?_
      refine lv_aload_n hx hb d_SlippedStreamsModel_store_96 rfl (lv_at hl 0 rfl) ?_
      refine mg_0_as hx hb hts hin_SlippedStreamsModel hown hK hP (hts _ k_815) (fun _ h9 => h9) d_SlippedStreamsModel_store_97 ?_
      refine lv_iload_n hx hb d_SlippedStreamsModel_store_100 rfl (lv_at hl 1 rfl) ?_
      obtain ⟨hi, h⟩ := gin_e h
      refine ml_1 hx hb hK hP hi d_SlippedStreamsModel_store_101 ?_
      obtain ⟨hi, h⟩ := gin_e h
      refine ml_5 hx hb hK hP hi d_SlippedStreamsModel_store_102 ?_
      refine lv_goto (tgt := 124) hx hb d_SlippedStreamsModel_store_103 (by decide) ?_
      exact jp_124 z5 y1 y2 (z5.1 6) (z5.2 5 (z5.2 1 y1.toNatClampNeg).toNatClampNeg) _ _ _ h hP hD hS (lv_sub hl [0, 1, 2] rfl)
  have jp_74 : ∀ (z0 : ST) (y1 y2 y3 : Int32) (H : Heap) (locs : List Loc) (ls : Array Slot), m_store_74 z0 y1 y2 y3 = some R → va_P (dC, dI) q_cl (wM cI cZ ad z0) H → va_D A (wM cI cZ ad z0) → va_S A s.heap H locs → lv_has ls 3 [(0, .ref (ad 0)), (1, .int y1), (2, .int y2)] → qWi p l e w_SlippedStreamsModel_store 7 156 s m [.ref (ad 0), .int x1] below meth c (dC, dI) q_cl (wM cI cZ ad) A R H locs (F0 m 74 ls [.int y3, .ref (ad 14)]) := by
    intro z0 y1 y2 y3 H locs ls h hP hD hS hl
    unfold m_store_74 at h
    refine lv_iconst (v := 1) hx hb d_SlippedStreamsModel_store_74 (by decide) ?_
    refine lv_goto (tgt := 79) hx hb d_SlippedStreamsModel_store_75 (by decide) ?_
    exact jp_79 z0 y1 y2 y3 1 _ _ _ h hP hD hS (lv_sub hl [0, 1, 2] rfl)
  unfold m_store at h
  refine lv_aload_n hx hb d_SlippedStreamsModel_store_0 rfl (lv_at hl 0 rfl) ?_
  refine mg_0_stores hx hb hts hin_SlippedStreamsModel hown hK hP (hts _ k_830) (fun _ h9 => h9) d_SlippedStreamsModel_store_1 ?_
  refine lv_bipush (v := 6) hx hb d_SlippedStreamsModel_store_4 (by decide) ?_
  refine lv_icmp_ne (tgt := 11) hx hb d_SlippedStreamsModel_store_6 (by decide) (fun hc => ?_) (fun hc => ?_)
  · replace h := if_f hc h
    refine lv_aload_n hx hb d_SlippedStreamsModel_store_11 rfl (lv_at hl 0 rfl) ?_
    refine mg_0_isAddress hx hb hts hin_SlippedStreamsModel hown hK hP (hts _ k_820) (fun _ h9 => h9) d_SlippedStreamsModel_store_12 ?_
    refine lv_aload_n hx hb d_SlippedStreamsModel_store_15 rfl (lv_at hl 0 rfl) ?_
    refine mg_0_as hx hb hts hin_SlippedStreamsModel hown hK hP (hts _ k_815) (fun _ h9 => h9) d_SlippedStreamsModel_store_16 ?_
    refine lv_iload_n hx hb d_SlippedStreamsModel_store_19 rfl (lv_at hl 1 rfl) ?_
    obtain ⟨hi, h⟩ := gin_e h
    refine ml_1 hx hb hK hP hi d_SlippedStreamsModel_store_20 ?_
    obtain ⟨hi, h⟩ := gin_e h
    refine ml_4 hx hb hK hP hi d_SlippedStreamsModel_store_21 ?_
    refine lv_istore_n (lv' := [(2, .int (z0.2 4 (z0.2 1 x1.toNatClampNeg).toNatClampNeg)), (0, .ref (ad 0)), (1, .int x1)]) hx hb d_SlippedStreamsModel_store_22 rfl hl (by decide) rfl (fun ls hl => ?_)
    refine lv_aload_n hx hb d_SlippedStreamsModel_store_23 rfl (lv_at hl 1 rfl) ?_
    refine mg_0_storeAt hx hb hts hin_SlippedStreamsModel hown hK hP (hts _ k_831) (fun _ h9 => h9) d_SlippedStreamsModel_store_24 ?_
    refine lv_aload_n hx hb d_SlippedStreamsModel_store_27 rfl (lv_at hl 1 rfl) ?_
    refine mg_0_stores hx hb hts hin_SlippedStreamsModel hown hK hP (hts _ k_830) (fun _ h9 => h9) d_SlippedStreamsModel_store_28 ?_
    refine lv_aload_n hx hb d_SlippedStreamsModel_store_31 rfl (lv_at hl 1 rfl) ?_
    refine mg_0_registers hx hb hts hin_SlippedStreamsModel hown hK hP (hts _ k_821) (fun _ h9 => h9) d_SlippedStreamsModel_store_32 ?_
    refine lv_aload_n hx hb d_SlippedStreamsModel_store_35 rfl (lv_at hl 1 rfl) ?_
    refine mg_0_bs hx hb hts hin_SlippedStreamsModel hown hK hP (hts _ k_816) (fun _ h9 => h9) d_SlippedStreamsModel_store_36 ?_
    refine lv_iload_n hx hb d_SlippedStreamsModel_store_39 rfl (lv_at hl 2 rfl) ?_
    obtain ⟨hi, h⟩ := gin_e h
    refine ml_2 hx hb hK hP hi d_SlippedStreamsModel_store_40 ?_
    obtain ⟨hi, h⟩ := gin_e h
    refine ml_5 hx hb hK hP hi d_SlippedStreamsModel_store_41 ?_
    refine lv_aload_n hx hb d_SlippedStreamsModel_store_42 rfl (lv_at hl 1 rfl) ?_
    refine mg_0_cs hx hb hts hin_SlippedStreamsModel hown hK hP (hts _ k_817) (fun _ h9 => h9) d_SlippedStreamsModel_store_43 ?_
    refine lv_iload_n hx hb d_SlippedStreamsModel_store_46 rfl (lv_at hl 2 rfl) ?_
    obtain ⟨hi, h⟩ := gin_e h
    refine ml_3 hx hb hK hP hi d_SlippedStreamsModel_store_47 ?_
    refine lv_iadd hx hb d_SlippedStreamsModel_store_48 ?_
    refine lv_bipush (v := 31) hx hb d_SlippedStreamsModel_store_49 (by decide) ?_
    refine lv_iand hx hb d_SlippedStreamsModel_store_51 ?_
    obtain ⟨hi, h⟩ := gin_e h
    obtain ⟨z7, e7, h⟩ := bnd_e h
    refine ms_11 hx hb hK hP hD hS hi d_SlippedStreamsModel_store_52 e7 (fun H locs hP hD hS => ?_)
    refine lv_aload_n hx hb d_SlippedStreamsModel_store_53 rfl (lv_at hl 1 rfl) ?_
    refine mg_0_storeThere hx hb hts hin_SlippedStreamsModel hown hK hP (hts _ k_833) (fun _ h9 => h9) d_SlippedStreamsModel_store_54 ?_
    refine lv_aload_n hx hb d_SlippedStreamsModel_store_57 rfl (lv_at hl 1 rfl) ?_
    refine mg_0_stores hx hb hts hin_SlippedStreamsModel hown hK hP (hts _ k_830) (fun _ h9 => h9) d_SlippedStreamsModel_store_58 ?_
    refine lv_iload_n hx hb d_SlippedStreamsModel_store_61 rfl (lv_at hl 0 rfl) ?_
    refine lv_if_ne (tgt := 74) hx hb d_SlippedStreamsModel_store_62 (by decide) (fun hc => ?_) (fun hc => ?_)
    · replace h := if_f hc h
      exact jp_74 z7 x1 (z0.2 4 (z0.2 1 x1.toNatClampNeg).toNatClampNeg) (z7.1 6) _ _ _ h hP hD hS (lv_sub hl [1, 2, 0] rfl)
    · replace h := if_t hc h
      refine lv_aload_n hx hb d_SlippedStreamsModel_store_65 rfl (lv_at hl 1 rfl) ?_
      refine mg_0_lengths hx hb hts hin_SlippedStreamsModel hown hK hP (hts _ k_829) (fun _ h9 => h9) d_SlippedStreamsModel_store_66 ?_
      refine lv_iconst (v := 1) hx hb d_SlippedStreamsModel_store_69 (by decide) ?_
      obtain ⟨hi, h⟩ := gin_e h
      refine ml_10 hx hb hK hP hi d_SlippedStreamsModel_store_70 ?_
      refine lv_if_le (tgt := 78) hx hb d_SlippedStreamsModel_store_71 (by decide) (fun hc => ?_) (fun hc => ?_)
      · replace h := if_t hc h
        refine lv_iconst (v := 0) hx hb d_SlippedStreamsModel_store_78 (by decide) ?_
        exact jp_79 z7 x1 (z0.2 4 (z0.2 1 x1.toNatClampNeg).toNatClampNeg) (z7.1 6) 0 _ _ _ h hP hD hS (lv_sub hl [1, 2, 0] rfl)
      · replace h := if_f hc h
        exact jp_74 z7 x1 (z0.2 4 (z0.2 1 x1.toNatClampNeg).toNatClampNeg) (z7.1 6) _ _ _ h hP hD hS (lv_sub hl [1, 2, 0] rfl)
  · replace h := if_t hc h
    refine lv_iconst (v := 0) hx hb d_SlippedStreamsModel_store_9 (by decide) ?_
    exact q_zret hx hb hr hlocks h hP hD hS d_SlippedStreamsModel_store_10
def m_isInList_g0 (k : Nat → ST → Int32 → Int32 → Int32 → Int32 → OR) (z0 : ST) (y1 y2 y3 y4 : Int32) : OR := k 1 z0 y1 0 0 0
def m_isInList_g4 (k : Nat → ST → Int32 → Int32 → Int32 → Int32 → OR) (z0 : ST) (y1 y2 y3 y4 : Int32) : OR := if (z0.1 6) ≤ y3 then (gib y2 (some (y2, z0))) else (if y2 = 0 then (gin y3 6 (if (z0.2 11 y3.toNatClampNeg) = y1 then (k 2 z0 y1 y2 y3 0) else (k 3 z0 y1 y2 y3 0))) else (k 2 z0 y1 y2 y3 0))
def m_isInList_g26 (k : Nat → ST → Int32 → Int32 → Int32 → Int32 → OR) (z0 : ST) (y1 y2 y3 y4 : Int32) : OR := k 3 z0 y1 y2 y3 1
def m_isInList_g31 (k : Nat → ST → Int32 → Int32 → Int32 → Int32 → OR) (z0 : ST) (y1 y2 y3 y4 : Int32) : OR := k 1 z0 y1 y4 (y3 + 1) 0
def m_isInList_g (k : Nat → ST → Int32 → Int32 → Int32 → Int32 → OR) (n : Nat) : ST → Int32 → Int32 → Int32 → Int32 → OR := match n with
  | 0 => m_isInList_g0 k
  | 1 => m_isInList_g4 k
  | 2 => m_isInList_g26 k
  | 3 => m_isInList_g31 k
  | _ => fun _ _ _ _ _ => none
def m_isInList_f : Nat → Nat → ST → Int32 → Int32 → Int32 → Int32 → OR
  | 0 => fun _ _ _ _ _ _ => none
  | n + 1 => m_isInList_g (m_isInList_f n)
def m_isInList (z0 : ST) (x1 : Int32) : OR := m_isInList_f 4000 0 z0 x1 0 0 0
set_option maxRecDepth 100000 in
set_option maxHeartbeats 4000000 in
theorem c_m_isInList (l : Launch) (dC : Nat → ClassId) (dI : Nat → Nat → Nat) (cI cZ : ClassId) (ad : Nat → Nat) (z0 : ST) (x1 : Int32) (R : Int32 × ST) (h : m_isInList z0 x1 = some R) : qMi l y_SlippedStreamsModel_isInList w_SlippedStreamsModel_isInList 0 0 (KX dC dI cI cZ) (dC, dI) q_cl (wM cI cZ ad) [.ref (ad 0), .int x1] z0 R := by
  intro sz
  refine Met.ofW (cc := b_SlippedStreamsModel_isInList) (maxL := 4) (ret := (some .boolean)) (by decide) rfl ?_
  intro p e s m args below meth c s₁ B hml hv
  obtain ⟨rfl, hsz, hP, hKK, hD0⟩ := hv
  have hx := B.exec
  have hb := B.bytes
  have hr := B.returns
  have hts : ∀ w ∈ q_big, w.before _ s = true := fun w h => atoms_spec (ws := w_SlippedStreamsModel_isInList) B.pre w (List.mem_cons_of_mem _ h)
  have hown : s.vm.findClass "SlippedStreamsModel" = some m.cls := findClass_of_methodNamed B.named
  have hlocks := B.notSynchronized
  subst hsz
  have hD := hD0.self (sz := s.heap.size)
  generalize hAe : va_A (wM cI cZ ad z0) s.heap.size = A at hD ⊢
  have hA : ∀ q : Nat, s.heap.size ≤ q → A q := fun q h => by rw [← hAe]; exact Or.inr h
  have hS : va_S A s.heap s.heap [] := va_S.rf
  have hK := hKK.1
  have hl := lv_entry ([.ref (ad 0), .int x1]) (n := 4) (Nat.le_of_ble_eq_true rfl)
  rw [lg_entry_eq]
  generalize (lg_sl ([.ref (ad 0), .int x1]) ++ List.replicate (4 - (lg_sl ([.ref (ad 0), .int x1])).length) Slot.unset).toArray = ls at hl ⊢
  have hl : lv_has ls 4 [(0, .ref (ad 0)), (1, .int x1)] := hl
  have key : ∀ n : Nat, (∀ (z0 : ST) (y1 y2 y3 y4 : Int32) (H : Heap) (locs : List Loc) (ls : Array Slot), m_isInList_f n 0 z0 y1 y2 y3 y4 = some R → va_P (dC, dI) q_cl (wM cI cZ ad z0) H → va_D A (wM cI cZ ad z0) → va_S A s.heap H locs → lv_has ls 4 [(0, .ref (ad 0)), (1, .int y1)] → qWi p l e w_SlippedStreamsModel_isInList 0 0 s m [.ref (ad 0), .int x1] below meth c (dC, dI) q_cl (wM cI cZ ad) A R H locs (F0 m 0 ls [])) ∧ (∀ (z0 : ST) (y1 y2 y3 y4 : Int32) (H : Heap) (locs : List Loc) (ls : Array Slot), m_isInList_f n 1 z0 y1 y2 y3 y4 = some R → va_P (dC, dI) q_cl (wM cI cZ ad z0) H → va_D A (wM cI cZ ad z0) → va_S A s.heap H locs → lv_has ls 4 [(0, .ref (ad 0)), (1, .int y1), (2, .int y2), (3, .int y3)] → qWi p l e w_SlippedStreamsModel_isInList 0 0 s m [.ref (ad 0), .int x1] below meth c (dC, dI) q_cl (wM cI cZ ad) A R H locs (F0 m 4 ls [])) ∧ (∀ (z0 : ST) (y1 y2 y3 y4 : Int32) (H : Heap) (locs : List Loc) (ls : Array Slot), m_isInList_f n 2 z0 y1 y2 y3 y4 = some R → va_P (dC, dI) q_cl (wM cI cZ ad z0) H → va_D A (wM cI cZ ad z0) → va_S A s.heap H locs → lv_has ls 4 [(0, .ref (ad 0)), (1, .int y1), (2, .int y2), (3, .int y3)] → qWi p l e w_SlippedStreamsModel_isInList 0 0 s m [.ref (ad 0), .int x1] below meth c (dC, dI) q_cl (wM cI cZ ad) A R H locs (F0 m 26 ls [])) ∧ (∀ (z0 : ST) (y1 y2 y3 y4 : Int32) (H : Heap) (locs : List Loc) (ls : Array Slot), m_isInList_f n 3 z0 y1 y2 y3 y4 = some R → va_P (dC, dI) q_cl (wM cI cZ ad z0) H → va_D A (wM cI cZ ad z0) → va_S A s.heap H locs → lv_has ls 4 [(0, .ref (ad 0)), (1, .int y1), (2, .int y2), (3, .int y3)] → qWi p l e w_SlippedStreamsModel_isInList 0 0 s m [.ref (ad 0), .int x1] below meth c (dC, dI) q_cl (wM cI cZ ad) A R H locs (F0 m 31 ls [.int y4])) := by
    intro n
    induction n with
    | zero => exact ⟨fun z0 y1 y2 y3 y4 H locs ls h hP hD hS hl => (by cases h), fun z0 y1 y2 y3 y4 H locs ls h hP hD hS hl => (by cases h), fun z0 y1 y2 y3 y4 H locs ls h hP hD hS hl => (by cases h), fun z0 y1 y2 y3 y4 H locs ls h hP hD hS hl => (by cases h)⟩
    | succ n ih =>
      obtain ⟨jp_0, jp_4, jp_26, jp_31⟩ := ih
      refine ⟨?_, ?_, ?_, ?_⟩
      · intro z0 y1 y2 y3 y4 H locs ls h hP hD hS hl
        replace h : m_isInList_g0 (m_isInList_f n) z0 y1 y2 y3 y4 = some R := h
        unfold m_isInList_g0 at h
        refine lv_iconst (v := 0) hx hb d_SlippedStreamsModel_isInList_0 (by decide) ?_
        refine lv_istore_n (lv' := [(2, .int 0), (0, .ref (ad 0)), (1, .int y1)]) hx hb d_SlippedStreamsModel_isInList_1 rfl hl (by decide) rfl (fun ls hl => ?_)
        refine lv_iconst (v := 0) hx hb d_SlippedStreamsModel_isInList_2 (by decide) ?_
        refine lv_istore_n (lv' := [(3, .int 0), (2, .int 0), (0, .ref (ad 0)), (1, .int y1)]) hx hb d_SlippedStreamsModel_isInList_3 rfl hl (by decide) rfl (fun ls hl => ?_)
        exact jp_4 z0 y1 0 0 0 _ _ _ h hP hD hS (lv_sub hl [2, 3, 1, 0] rfl)
      · intro z0 y1 y2 y3 y4 H locs ls h hP hD hS hl
        replace h : m_isInList_g4 (m_isInList_f n) z0 y1 y2 y3 y4 = some R := h
        unfold m_isInList_g4 at h
        refine lv_iload_n hx hb d_SlippedStreamsModel_isInList_4 rfl (lv_at hl 3 rfl) ?_
        refine lv_aload_n hx hb d_SlippedStreamsModel_isInList_5 rfl (lv_at hl 0 rfl) ?_
        refine mg_0_stores hx hb hts hin_SlippedStreamsModel hown hK hP (hts _ k_830) (fun _ h9 => h9) d_SlippedStreamsModel_isInList_6 ?_
        refine lv_icmp_ge (tgt := 38) hx hb d_SlippedStreamsModel_isInList_9 (by decide) (fun hc => ?_) (fun hc => ?_)
        · replace h := if_t hc h
          refine lv_iload_n hx hb d_SlippedStreamsModel_isInList_38 rfl (lv_at hl 2 rfl) ?_
          exact q_zret hx hb hr hlocks h hP hD hS d_SlippedStreamsModel_isInList_39
        · replace h := if_f hc h
          refine lv_iload_n hx hb d_SlippedStreamsModel_isInList_12 rfl (lv_at hl 2 rfl) ?_
          refine lv_if_ne (tgt := 26) hx hb d_SlippedStreamsModel_isInList_13 (by decide) (fun hc => ?_) (fun hc => ?_)
          · replace h := if_f hc h
            exact jp_26 z0 y1 y2 y3 0 _ _ _ h hP hD hS (lv_sub hl [0, 1, 2, 3] rfl)
          · replace h := if_t hc h
            refine lv_aload_n hx hb d_SlippedStreamsModel_isInList_16 rfl (lv_at hl 0 rfl) ?_
            refine mg_0_storeAt hx hb hts hin_SlippedStreamsModel hown hK hP (hts _ k_831) (fun _ h9 => h9) d_SlippedStreamsModel_isInList_17 ?_
            refine lv_iload_n hx hb d_SlippedStreamsModel_isInList_20 rfl (lv_at hl 3 rfl) ?_
            obtain ⟨hi, h⟩ := gin_e h
            refine ml_11 hx hb hK hP hi d_SlippedStreamsModel_isInList_21 ?_
            refine lv_iload_n hx hb d_SlippedStreamsModel_isInList_22 rfl (lv_at hl 1 rfl) ?_
            refine lv_icmp_ne (tgt := 30) hx hb d_SlippedStreamsModel_isInList_23 (by decide) (fun hc => ?_) (fun hc => ?_)
            · replace h := if_f hc h
              refine lv_iconst (v := 0) hx hb d_SlippedStreamsModel_isInList_30 (by decide) ?_
              exact jp_31 z0 y1 y2 y3 0 _ _ _ h hP hD hS (lv_sub hl [0, 1, 2, 3] rfl)
            · replace h := if_t hc h
              exact jp_26 z0 y1 y2 y3 0 _ _ _ h hP hD hS (lv_sub hl [0, 1, 2, 3] rfl)
      · intro z0 y1 y2 y3 y4 H locs ls h hP hD hS hl
        replace h : m_isInList_g26 (m_isInList_f n) z0 y1 y2 y3 y4 = some R := h
        unfold m_isInList_g26 at h
        refine lv_iconst (v := 1) hx hb d_SlippedStreamsModel_isInList_26 (by decide) ?_
        refine lv_goto (tgt := 31) hx hb d_SlippedStreamsModel_isInList_27 (by decide) ?_
        exact jp_31 z0 y1 y2 y3 1 _ _ _ h hP hD hS (lv_sub hl [0, 1, 2, 3] rfl)
      · intro z0 y1 y2 y3 y4 H locs ls h hP hD hS hl
        replace h : m_isInList_g31 (m_isInList_f n) z0 y1 y2 y3 y4 = some R := h
        unfold m_isInList_g31 at h
        refine lv_istore_n (lv' := [(2, .int y4), (0, .ref (ad 0)), (1, .int y1), (3, .int y3)]) hx hb d_SlippedStreamsModel_isInList_31 rfl hl (by decide) rfl (fun ls hl => ?_)
        refine lv_iinc (k := 3) (v := y3 + 1) (lv' := [(3, .int (y3 + 1)), (2, .int y4), (0, .ref (ad 0)), (1, .int y1)]) hx hb d_SlippedStreamsModel_isInList_32 hl rfl rfl (by decide) rfl (fun ls hl => ?_)
        refine lv_goto (tgt := 4) hx hb d_SlippedStreamsModel_isInList_35 (by decide) ?_
        exact jp_4 z0 y1 y4 (y3 + 1) 0 _ _ _ h hP hD hS (lv_sub hl [2, 3, 1, 0] rfl)
  exact (key 4000).1 z0 x1 0 0 0 _ _ _ h hP hD hS (lv_sub hl [0, 1] rfl)
def m_load_94 (z0 : ST) (y1 y2 y3 : Int32) : OR := obn (m_leave z0 0 (y1 + 1)) (fun r1 z1 => gib 1 (some (1, z1)))
def m_load_59 (z0 : ST) (y1 y2 y3 : Int32) : OR := if y3 = 0 then (gin y2 32 (obn (m_put z0 0 (z0.2 8 y2.toNatClampNeg)) (fun r2 z2 => m_load_94 z2 y1 y2 y3))) else (gin y1 24 (gin y2 32 (gin (z0.2 1 y1.toNatClampNeg) 16 (bnd (stA z0 5 (upd (z0.2 5) (z0.2 1 y1.toNatClampNeg).toNatClampNeg (z0.2 8 y2.toNatClampNeg))) (fun z3 => m_load_94 z3 y1 y2 y3)))))
def m_load_35 (z0 : ST) (y1 y2 y3 : Int32) : OR := obn (m_isInList z0 y2) (fun r4 z4 => if r4 = 0 then (if y3 = 0 then (obn (m_hasRoom z4 0 1) (fun r5 z5 => if r5 = 0 then (gib 0 (some (0, z5))) else (m_load_59 z5 y1 y2 y3))) else (m_load_59 z4 y1 y2 y3)) else (gib 0 (some (0, z4))))
def m_load (z0 : ST) (x1 : Int32) : OR := gin x1 24 (gin (z0.2 2 x1.toNatClampNeg) 16 (gin x1 24 (obn (m_belongs z0 x1) (fun r6 z6 => if r6 = 0 then (m_load_35 z6 x1 (((z0.2 5 (z0.2 2 x1.toNatClampNeg).toNatClampNeg) + (z0.2 3 x1.toNatClampNeg)) &&& 31) 1) else (m_load_35 z6 x1 (((z0.2 5 (z0.2 2 x1.toNatClampNeg).toNatClampNeg) + (z0.2 3 x1.toNatClampNeg)) &&& 31) 0)))))
set_option maxRecDepth 100000 in
set_option maxHeartbeats 4000000 in
theorem c_m_load (l : Launch) (dC : Nat → ClassId) (dI : Nat → Nat → Nat) (cI cZ : ClassId) (ad : Nat → Nat) (z0 : ST) (x1 : Int32) (R : Int32 × ST) (h : m_load z0 x1 = some R) : qMi l y_SlippedStreamsModel_load w_SlippedStreamsModel_load 7 156 (KX dC dI cI cZ) (dC, dI) q_cl (wM cI cZ ad) [.ref (ad 0), .int x1] z0 R := by
  intro sz
  refine Met.ofW (cc := b_SlippedStreamsModel_load) (maxL := 4) (ret := (some .boolean)) (by decide) rfl ?_
  intro p e s m args below meth c s₁ B hml hv
  obtain ⟨rfl, hsz, hP, hKK, hD0⟩ := hv
  have hx := B.exec
  have hb := B.bytes
  have hr := B.returns
  have hts : ∀ w ∈ q_big, w.before _ s = true := fun w h => atoms_spec (ws := w_SlippedStreamsModel_load) B.pre w (List.mem_cons_of_mem _ h)
  have hown : s.vm.findClass "SlippedStreamsModel" = some m.cls := findClass_of_methodNamed B.named
  have hlocks := B.notSynchronized
  subst hsz
  have hD := hD0.self (sz := s.heap.size)
  generalize hAe : va_A (wM cI cZ ad z0) s.heap.size = A at hD ⊢
  have hA : ∀ q : Nat, s.heap.size ≤ q → A q := fun q h => by rw [← hAe]; exact Or.inr h
  have hS : va_S A s.heap s.heap [] := va_S.rf
  have hK := hKK.1
  have hl := lv_entry ([.ref (ad 0), .int x1]) (n := 4) (Nat.le_of_ble_eq_true rfl)
  rw [lg_entry_eq]
  generalize (lg_sl ([.ref (ad 0), .int x1]) ++ List.replicate (4 - (lg_sl ([.ref (ad 0), .int x1])).length) Slot.unset).toArray = ls at hl ⊢
  have hl : lv_has ls 4 [(0, .ref (ad 0)), (1, .int x1)] := hl
  have jp_94 : ∀ (z0 : ST) (y1 y2 y3 : Int32) (H : Heap) (locs : List Loc) (ls : Array Slot), m_load_94 z0 y1 y2 y3 = some R → va_P (dC, dI) q_cl (wM cI cZ ad z0) H → va_D A (wM cI cZ ad z0) → va_S A s.heap H locs → lv_has ls 4 [(0, .ref (ad 0)), (1, .int y1), (2, .int y2), (3, .int y3)] → qWi p l e w_SlippedStreamsModel_load 7 156 s m [.ref (ad 0), .int x1] below meth c (dC, dI) q_cl (wM cI cZ ad) A R H locs (F0 m 94 ls []) := by
    intro z0 y1 y2 y3 H locs ls h hP hD hS hl
    unfold m_load_94 at h
    refine lv_aload_n hx hb d_SlippedStreamsModel_load_94 rfl (lv_at hl 0 rfl) ?_
    refine lv_iconst (v := 0) hx hb d_SlippedStreamsModel_load_95 (by decide) ?_
    refine lv_iload_n hx hb d_SlippedStreamsModel_load_96 rfl (lv_at hl 1 rfl) ?_
    refine lv_iconst (v := 1) hx hb d_SlippedStreamsModel_load_97 (by decide) ?_
    refine lv_iadd hx hb d_SlippedStreamsModel_load_98 ?_
    obtain ⟨r1, z1, hc1, h⟩ := obn_e h
    refine q_gov (va_runV (As := [.int 0, .int (y1 + 1)]) (rest := []) ⟨hx, hb, hml, hown, hts⟩ (c_m_leave l dC dI cI cZ ad z0 0 (y1 + 1) _ hc1 _) (cwV 2 hts (q_goodL _ (q_l4 k_977 k_979 k_40 k_64) k_980) rfl rfl rfl (by decide +kernel) ⟨Nat.le_of_ble_eq_true rfl, Nat.le_of_ble_eq_true rfl⟩) (q_preV qok hKK hP hD (va_recv (ci := 9) (q0 := 0) hK hP rfl rfl)) rfl rfl hl.1 rfl (lv_room (Nat.le_of_ble_eq_true rfl)) d_SlippedStreamsModel_load_99 ⟨Nat.le_refl _, Nat.le_refl _⟩) hD hS hA (fun H locs hP hD hS => ?_)
    refine lv_iconst (v := 1) hx hb d_SlippedStreamsModel_load_102 (by decide) ?_
    exact q_zret hx hb hr hlocks h hP hD hS d_SlippedStreamsModel_load_103
  have jp_59 : ∀ (z0 : ST) (y1 y2 y3 : Int32) (H : Heap) (locs : List Loc) (ls : Array Slot), m_load_59 z0 y1 y2 y3 = some R → va_P (dC, dI) q_cl (wM cI cZ ad z0) H → va_D A (wM cI cZ ad z0) → va_S A s.heap H locs → lv_has ls 4 [(0, .ref (ad 0)), (1, .int y1), (2, .int y2), (3, .int y3)] → qWi p l e w_SlippedStreamsModel_load 7 156 s m [.ref (ad 0), .int x1] below meth c (dC, dI) q_cl (wM cI cZ ad) A R H locs (F0 m 59 ls []) := by
    intro z0 y1 y2 y3 H locs ls h hP hD hS hl
    unfold m_load_59 at h
    refine lv_iload_n hx hb d_SlippedStreamsModel_load_59 rfl (lv_at hl 3 rfl) ?_
    refine lv_if_eq (tgt := 83) hx hb d_SlippedStreamsModel_load_60 (by decide) (fun hc => ?_) (fun hc => ?_)
    · replace h := if_t hc h
      refine lv_aload_n hx hb d_SlippedStreamsModel_load_83 rfl (lv_at hl 0 rfl) ?_
      refine lv_iconst (v := 0) hx hb d_SlippedStreamsModel_load_84 (by decide) ?_
      refine lv_aload_n hx hb d_SlippedStreamsModel_load_85 rfl (lv_at hl 0 rfl) ?_
      refine mg_0_memory hx hb hts hin_SlippedStreamsModel hown hK hP (hts _ k_825) (fun _ h9 => h9) d_SlippedStreamsModel_load_86 ?_
      refine lv_iload_n hx hb d_SlippedStreamsModel_load_89 rfl (lv_at hl 2 rfl) ?_
      obtain ⟨hi, h⟩ := gin_e h
      refine ml_8 hx hb hK hP hi d_SlippedStreamsModel_load_90 ?_
      obtain ⟨r2, z2, hc2, h⟩ := obn_e h
      refine q_gov (va_runV (As := [.int 0, .int (z0.2 8 y2.toNatClampNeg)]) (rest := []) ⟨hx, hb, hml, hown, hts⟩ (c_m_put l dC dI cI cZ ad z0 0 (z0.2 8 y2.toNatClampNeg) _ hc2 _) (cwV 2 hts (q_goodL _ (q_l4 k_973 k_975 k_39 k_64) k_976) rfl rfl rfl (by decide +kernel) ⟨Nat.le_of_ble_eq_true rfl, Nat.le_of_ble_eq_true rfl⟩) (q_preV qok hKK hP hD (va_recv (ci := 9) (q0 := 0) hK hP rfl rfl)) rfl rfl hl.1 rfl (lv_room (Nat.le_of_ble_eq_true rfl)) d_SlippedStreamsModel_load_91 ⟨Nat.le_refl _, Nat.le_refl _⟩) hD hS hA (fun H locs hP hD hS => ?_)
      exact jp_94 z2 y1 y2 y3 _ _ _ h hP hD hS (lv_sub hl [0, 1, 2, 3] rfl)
    · replace h := if_f hc h
      refine lv_aload_n hx hb d_SlippedStreamsModel_load_63 rfl (lv_at hl 0 rfl) ?_
      refine mg_0_registers hx hb hts hin_SlippedStreamsModel hown hK hP (hts _ k_821) (fun _ h9 => h9) d_SlippedStreamsModel_load_64 ?_
      refine lv_aload_n hx hb d_SlippedStreamsModel_load_67 rfl (lv_at hl 0 rfl) ?_
      refine mg_0_as hx hb hts hin_SlippedStreamsModel hown hK hP (hts _ k_815) (fun _ h9 => h9) d_SlippedStreamsModel_load_68 ?_
      refine lv_iload_n hx hb d_SlippedStreamsModel_load_71 rfl (lv_at hl 1 rfl) ?_
      obtain ⟨hi, h⟩ := gin_e h
      refine ml_1 hx hb hK hP hi d_SlippedStreamsModel_load_72 ?_
      refine lv_aload_n hx hb d_SlippedStreamsModel_load_73 rfl (lv_at hl 0 rfl) ?_
      refine mg_0_memory hx hb hts hin_SlippedStreamsModel hown hK hP (hts _ k_825) (fun _ h9 => h9) d_SlippedStreamsModel_load_74 ?_
      refine lv_iload_n hx hb d_SlippedStreamsModel_load_77 rfl (lv_at hl 2 rfl) ?_
      obtain ⟨hi, h⟩ := gin_e h
      refine ml_8 hx hb hK hP hi d_SlippedStreamsModel_load_78 ?_
      obtain ⟨hi, h⟩ := gin_e h
      obtain ⟨z3, e3, h⟩ := bnd_e h
      refine ms_5 hx hb hK hP hD hS hi d_SlippedStreamsModel_load_79 e3 (fun H locs hP hD hS => ?_)
      refine lv_goto (tgt := 94) hx hb d_SlippedStreamsModel_load_80 (by decide) ?_
      exact jp_94 z3 y1 y2 y3 _ _ _ h hP hD hS (lv_sub hl [0, 1, 2, 3] rfl)
  have jp_35 : ∀ (z0 : ST) (y1 y2 y3 : Int32) (H : Heap) (locs : List Loc) (ls : Array Slot), m_load_35 z0 y1 y2 y3 = some R → va_P (dC, dI) q_cl (wM cI cZ ad z0) H → va_D A (wM cI cZ ad z0) → va_S A s.heap H locs → lv_has ls 4 [(0, .ref (ad 0)), (1, .int y1), (2, .int y2)] → qWi p l e w_SlippedStreamsModel_load 7 156 s m [.ref (ad 0), .int x1] below meth c (dC, dI) q_cl (wM cI cZ ad) A R H locs (F0 m 35 ls [.int y3]) := by
    intro z0 y1 y2 y3 H locs ls h hP hD hS hl
    unfold m_load_35 at h
    refine lv_istore_n (lv' := [(3, .int y3), (0, .ref (ad 0)), (1, .int y1), (2, .int y2)]) hx hb d_SlippedStreamsModel_load_35 rfl hl (by decide) rfl (fun ls hl => ?_)
    refine lv_aload_n hx hb d_SlippedStreamsModel_load_36 rfl (lv_at hl 1 rfl) ?_
    refine lv_iload_n hx hb d_SlippedStreamsModel_load_37 rfl (lv_at hl 3 rfl) ?_
    obtain ⟨r4, z4, hc4, h⟩ := obn_e h
    refine q_goi (va_runV (As := [.int y2]) (rest := []) ⟨hx, hb, hml, hown, hts⟩ (c_m_isInList l dC dI cI cZ ad z0 y2 _ hc4 _) (cwV 1 hts (q_goodL _ (q_l4 k_965 k_967 k_37 k_64) k_968) rfl rfl rfl (by decide +kernel) ⟨Nat.le_of_ble_eq_true rfl, Nat.le_of_ble_eq_true rfl⟩) (q_preV qok hKK hP hD (va_recv (ci := 9) (q0 := 0) hK hP rfl rfl)) rfl rfl hl.1 rfl (lv_room (Nat.le_of_ble_eq_true rfl)) d_SlippedStreamsModel_load_38 ⟨Nat.le_refl _, Nat.le_refl _⟩) hD hS hA (fun H locs hP hD hS => ?_)
    refine lv_if_ne (tgt := 57) hx hb d_SlippedStreamsModel_load_41 (by decide) (fun hc => ?_) (fun hc => ?_)
    · replace h := if_f hc h
      refine lv_iconst (v := 0) hx hb d_SlippedStreamsModel_load_57 (by decide) ?_
      exact q_zret hx hb hr hlocks h hP hD hS d_SlippedStreamsModel_load_58
    · replace h := if_t hc h
      refine lv_iload_n hx hb d_SlippedStreamsModel_load_44 rfl (lv_at hl 0 rfl) ?_
      refine lv_if_ne (tgt := 59) hx hb d_SlippedStreamsModel_load_45 (by decide) (fun hc => ?_) (fun hc => ?_)
      · replace h := if_f hc h
        exact jp_59 z4 y1 y2 y3 _ _ _ h hP hD hS (lv_sub hl [1, 2, 3, 0] rfl)
      · replace h := if_t hc h
        refine lv_aload_n hx hb d_SlippedStreamsModel_load_48 rfl (lv_at hl 1 rfl) ?_
        refine lv_iconst (v := 0) hx hb d_SlippedStreamsModel_load_49 (by decide) ?_
        refine lv_iconst (v := 1) hx hb d_SlippedStreamsModel_load_50 (by decide) ?_
        obtain ⟨r5, z5, hc5, h⟩ := obn_e h
        refine q_goi (va_runV (As := [.int 0, .int 1]) (rest := []) ⟨hx, hb, hml, hown, hts⟩ (c_m_hasRoom l dC dI cI cZ ad z4 0 1 _ hc5 _) (cwV 2 hts (q_goodL _ (q_l4 k_969 k_971 k_38 k_64) k_972) rfl rfl rfl (by decide +kernel) ⟨Nat.le_of_ble_eq_true rfl, Nat.le_of_ble_eq_true rfl⟩) (q_preV qok hKK hP hD (va_recv (ci := 9) (q0 := 0) hK hP rfl rfl)) rfl rfl hl.1 rfl (lv_room (Nat.le_of_ble_eq_true rfl)) d_SlippedStreamsModel_load_51 ⟨Nat.le_refl _, Nat.le_refl _⟩) hD hS hA (fun H locs hP hD hS => ?_)
        refine lv_if_ne (tgt := 59) hx hb d_SlippedStreamsModel_load_54 (by decide) (fun hc => ?_) (fun hc => ?_)
        · replace h := if_f hc h
          exact jp_59 z5 y1 y2 y3 _ _ _ h hP hD hS (lv_sub hl [1, 2, 3, 0] rfl)
        · replace h := if_t hc h
          refine lv_iconst (v := 0) hx hb d_SlippedStreamsModel_load_57 (by decide) ?_
          exact q_zret hx hb hr hlocks h hP hD hS d_SlippedStreamsModel_load_58
  unfold m_load at h
  refine lv_aload_n hx hb d_SlippedStreamsModel_load_0 rfl (lv_at hl 0 rfl) ?_
  refine mg_0_registers hx hb hts hin_SlippedStreamsModel hown hK hP (hts _ k_821) (fun _ h9 => h9) d_SlippedStreamsModel_load_1 ?_
  refine lv_aload_n hx hb d_SlippedStreamsModel_load_4 rfl (lv_at hl 0 rfl) ?_
  refine mg_0_bs hx hb hts hin_SlippedStreamsModel hown hK hP (hts _ k_816) (fun _ h9 => h9) d_SlippedStreamsModel_load_5 ?_
  refine lv_iload_n hx hb d_SlippedStreamsModel_load_8 rfl (lv_at hl 1 rfl) ?_
  obtain ⟨hi, h⟩ := gin_e h
  refine ml_2 hx hb hK hP hi d_SlippedStreamsModel_load_9 ?_
  obtain ⟨hi, h⟩ := gin_e h
  refine ml_5 hx hb hK hP hi d_SlippedStreamsModel_load_10 ?_
  refine lv_aload_n hx hb d_SlippedStreamsModel_load_11 rfl (lv_at hl 0 rfl) ?_
  refine mg_0_cs hx hb hts hin_SlippedStreamsModel hown hK hP (hts _ k_817) (fun _ h9 => h9) d_SlippedStreamsModel_load_12 ?_
  refine lv_iload_n hx hb d_SlippedStreamsModel_load_15 rfl (lv_at hl 1 rfl) ?_
  obtain ⟨hi, h⟩ := gin_e h
  refine ml_3 hx hb hK hP hi d_SlippedStreamsModel_load_16 ?_
  refine lv_iadd hx hb d_SlippedStreamsModel_load_17 ?_
  refine lv_bipush (v := 31) hx hb d_SlippedStreamsModel_load_18 (by decide) ?_
  refine lv_iand hx hb d_SlippedStreamsModel_load_20 ?_
  refine lv_istore_n (lv' := [(2, .int (((z0.2 5 (z0.2 2 x1.toNatClampNeg).toNatClampNeg) + (z0.2 3 x1.toNatClampNeg)) &&& 31)), (0, .ref (ad 0)), (1, .int x1)]) hx hb d_SlippedStreamsModel_load_21 rfl hl (by decide) rfl (fun ls hl => ?_)
  refine lv_aload_n hx hb d_SlippedStreamsModel_load_22 rfl (lv_at hl 1 rfl) ?_
  refine lv_iload_n hx hb d_SlippedStreamsModel_load_23 rfl (lv_at hl 2 rfl) ?_
  obtain ⟨r6, z6, hc6, h⟩ := obn_e h
  refine q_goi (va_runV (As := [.int x1]) (rest := []) ⟨hx, hb, hml, hown, hts⟩ (c_m_belongs l dC dI cI cZ ad z0 x1 _ hc6 _) (cwV 1 hts (q_goodL _ (q_l4 k_925 k_927 k_31 k_64) k_928) rfl rfl rfl (by decide +kernel) ⟨Nat.le_of_ble_eq_true rfl, Nat.le_of_ble_eq_true rfl⟩) (q_preV qok hKK hP hD (va_recv (ci := 9) (q0 := 0) hK hP rfl rfl)) rfl rfl hl.1 rfl (lv_room (Nat.le_of_ble_eq_true rfl)) d_SlippedStreamsModel_load_24 ⟨Nat.le_refl _, Nat.le_refl _⟩) hD hS hA (fun H locs hP hD hS => ?_)
  refine lv_if_ne (tgt := 34) hx hb d_SlippedStreamsModel_load_27 (by decide) (fun hc => ?_) (fun hc => ?_)
  · replace h := if_f hc h
    refine lv_iconst (v := 0) hx hb d_SlippedStreamsModel_load_34 (by decide) ?_
    exact jp_35 z6 x1 (((z0.2 5 (z0.2 2 x1.toNatClampNeg).toNatClampNeg) + (z0.2 3 x1.toNatClampNeg)) &&& 31) 0 _ _ _ h hP hD hS (lv_sub hl [1, 2, 0] rfl)
  · replace h := if_t hc h
    refine lv_iconst (v := 1) hx hb d_SlippedStreamsModel_load_30 (by decide) ?_
    refine lv_goto (tgt := 35) hx hb d_SlippedStreamsModel_load_31 (by decide) ?_
    exact jp_35 z6 x1 (((z0.2 5 (z0.2 2 x1.toNatClampNeg).toNatClampNeg) + (z0.2 3 x1.toNatClampNeg)) &&& 31) 1 _ _ _ h hP hD hS (lv_sub hl [1, 2, 0] rfl)
def m_moveAddress_236 (z0 : ST) (y1 y2 y3 y4 : Int32) : OR := gin y3 16 (bnd (stA z0 5 (upd (z0.2 5) y3.toNatClampNeg y4)) (fun z1 => obn (m_leave z1 0 (y1 + 1)) (fun r2 z2 => gib 1 (some (1, z2)))))
def m_moveAddress_182 (z0 : ST) (y1 y2 y3 y4 y5 : Int32) : OR := obn (m_leave z0 y4 y5) (fun r3 z3 => gib 1 (some (1, z3)))
def m_moveAddress_161 (z0 : ST) (y1 y2 y3 y4 y5 : Int32) : OR := obn (m_put z0 y4 y5) (fun r4 z4 => if y3 = 0 then (m_moveAddress_182 z4 y1 y2 y3 0 (y1 + 1)) else (gin y1 24 (m_moveAddress_182 z4 y1 y2 y3 0 (z4.2 3 y1.toNatClampNeg))))
def m_moveAddress (z0 : ST) : OR := gin 0 2 (gib 0 (bnd (stI z0 5 0) (fun z5 => if (z0.2 6 (0 : Int32).toNatClampNeg) < (z5.1 0) then (gin (z0.2 6 (0 : Int32).toNatClampNeg) 24 (if (z5.2 0 (z0.2 6 (0 : Int32).toNatClampNeg).toNatClampNeg) = 4 then (obn (m_load z5 (z0.2 6 (0 : Int32).toNatClampNeg)) (fun r18 z18 => gib r18 (some (r18, z18)))) else (if (z5.2 0 (z0.2 6 (0 : Int32).toNatClampNeg).toNatClampNeg) = 5 then (obn (m_store z5 (z0.2 6 (0 : Int32).toNatClampNeg)) (fun r17 z17 => gib r17 (some (r17, z17)))) else (obn (m_belongs z5 (z0.2 6 (0 : Int32).toNatClampNeg)) (fun r6 z6 => if r6 = 1 then (obn (m_isBranch z6 (z0.2 6 (0 : Int32).toNatClampNeg)) (fun r11 z11 => if r11 = 0 then (obn (m_howMany z11 (z0.2 6 (0 : Int32).toNatClampNeg)) (fun r12 z12 => obn (m_hasRoom z12 4 r12) (fun r13 z13 => if r13 = 0 then (gib 0 (some (0, z13))) else (obn (m_hand z13 (z0.2 6 (0 : Int32).toNatClampNeg)) (fun r14 z14 => obn (m_leave z14 0 ((z0.2 6 (0 : Int32).toNatClampNeg) + 1)) (fun r15 z15 => gib 1 (some (1, z15)))))))) else (obn (m_follow z11 (z0.2 6 (0 : Int32).toNatClampNeg)) (fun r16 z16 => gib r16 (some (r16, z16)))))) else (obn (m_isBranch z6 (z0.2 6 (0 : Int32).toNatClampNeg)) (fun r7 z7 => if r7 = 0 then (gin (z0.2 6 (0 : Int32).toNatClampNeg) 24 (if (z5.2 0 (z0.2 6 (0 : Int32).toNatClampNeg).toNatClampNeg) = 0 then (gin (z0.2 6 (0 : Int32).toNatClampNeg) 24 (m_moveAddress_236 z7 (z0.2 6 (0 : Int32).toNatClampNeg) (z5.2 0 (z0.2 6 (0 : Int32).toNatClampNeg).toNatClampNeg) (z7.2 1 (z0.2 6 (0 : Int32).toNatClampNeg).toNatClampNeg) (z7.2 3 (z0.2 6 (0 : Int32).toNatClampNeg).toNatClampNeg))) else (gin (z0.2 6 (0 : Int32).toNatClampNeg) 24 (gin (z7.2 2 (z0.2 6 (0 : Int32).toNatClampNeg).toNatClampNeg) 16 (gin (z0.2 6 (0 : Int32).toNatClampNeg) 24 (gin (z7.2 3 (z0.2 6 (0 : Int32).toNatClampNeg).toNatClampNeg) 16 (obn (m_reckon z7 (z5.2 0 (z0.2 6 (0 : Int32).toNatClampNeg).toNatClampNeg) (z7.2 5 (z7.2 2 (z0.2 6 (0 : Int32).toNatClampNeg).toNatClampNeg).toNatClampNeg) (z7.2 5 (z7.2 3 (z0.2 6 (0 : Int32).toNatClampNeg).toNatClampNeg).toNatClampNeg)) (fun r8 z8 => m_moveAddress_236 z8 (z0.2 6 (0 : Int32).toNatClampNeg) (z5.2 0 (z0.2 6 (0 : Int32).toNatClampNeg).toNatClampNeg) (z7.2 1 (z0.2 6 (0 : Int32).toNatClampNeg).toNatClampNeg) r8)))))))) else (obn (m_hasRoom z7 2 1) (fun r9 z9 => if r9 = 0 then (gib 0 (some (0, z9))) else (gin (z0.2 6 (0 : Int32).toNatClampNeg) 24 (gin (z9.2 1 (z0.2 6 (0 : Int32).toNatClampNeg).toNatClampNeg) 16 (gin (z0.2 6 (0 : Int32).toNatClampNeg) 24 (gin (z9.2 2 (z0.2 6 (0 : Int32).toNatClampNeg).toNatClampNeg) 16 (obn (m_holds z9 (z5.2 0 (z0.2 6 (0 : Int32).toNatClampNeg).toNatClampNeg) (z9.2 5 (z9.2 1 (z0.2 6 (0 : Int32).toNatClampNeg).toNatClampNeg).toNatClampNeg) (z9.2 5 (z9.2 2 (z0.2 6 (0 : Int32).toNatClampNeg).toNatClampNeg).toNatClampNeg)) (fun r10 z10 => if r10 = 0 then (m_moveAddress_161 z10 (z0.2 6 (0 : Int32).toNatClampNeg) (z5.2 0 (z0.2 6 (0 : Int32).toNatClampNeg).toNatClampNeg) r10 2 0) else (m_moveAddress_161 z10 (z0.2 6 (0 : Int32).toNatClampNeg) (z5.2 0 (z0.2 6 (0 : Int32).toNatClampNeg).toNatClampNeg) r10 2 1)))))))))))))))) else (gib 0 (some (0, z5))))))
set_option maxRecDepth 100000 in
set_option maxHeartbeats 4000000 in
theorem c_m_moveAddress (l : Launch) (dC : Nat → ClassId) (dI : Nat → Nat → Nat) (cI cZ : ClassId) (ad : Nat → Nat) (z0 : ST) (R : Int32 × ST) (h : m_moveAddress z0 = some R) : qMi l y_SlippedStreamsModel_moveAddress w_SlippedStreamsModel_moveAddress 8 179 (KX dC dI cI cZ) (dC, dI) q_cl (wM cI cZ ad) [.ref (ad 0)] z0 R := by
  intro sz
  refine Met.ofW (cc := b_SlippedStreamsModel_moveAddress) (maxL := 4) (ret := (some .boolean)) (by decide) rfl ?_
  intro p e s m args below meth c s₁ B hml hv
  obtain ⟨rfl, hsz, hP, hKK, hD0⟩ := hv
  have hx := B.exec
  have hb := B.bytes
  have hr := B.returns
  have hts : ∀ w ∈ q_big, w.before _ s = true := fun w h => atoms_spec (ws := w_SlippedStreamsModel_moveAddress) B.pre w (List.mem_cons_of_mem _ h)
  have hown : s.vm.findClass "SlippedStreamsModel" = some m.cls := findClass_of_methodNamed B.named
  have hlocks := B.notSynchronized
  subst hsz
  have hD := hD0.self (sz := s.heap.size)
  generalize hAe : va_A (wM cI cZ ad z0) s.heap.size = A at hD ⊢
  have hA : ∀ q : Nat, s.heap.size ≤ q → A q := fun q h => by rw [← hAe]; exact Or.inr h
  have hS : va_S A s.heap s.heap [] := va_S.rf
  have hK := hKK.1
  have hl := lv_entry ([.ref (ad 0)]) (n := 4) (Nat.le_of_ble_eq_true rfl)
  rw [lg_entry_eq]
  generalize (lg_sl ([.ref (ad 0)]) ++ List.replicate (4 - (lg_sl ([.ref (ad 0)])).length) Slot.unset).toArray = ls at hl ⊢
  have hl : lv_has ls 4 [(0, .ref (ad 0))] := hl
  have jp_236 : ∀ (z0 : ST) (y1 y2 y3 y4 : Int32) (H : Heap) (locs : List Loc) (ls : Array Slot), m_moveAddress_236 z0 y1 y2 y3 y4 = some R → va_P (dC, dI) q_cl (wM cI cZ ad z0) H → va_D A (wM cI cZ ad z0) → va_S A s.heap H locs → lv_has ls 4 [(0, .ref (ad 0)), (1, .int y1), (2, .int y2)] → qWi p l e w_SlippedStreamsModel_moveAddress 8 179 s m [.ref (ad 0)] below meth c (dC, dI) q_cl (wM cI cZ ad) A R H locs (F0 m 236 ls [.int y4, .int y3, .ref (ad 6)]) := by
    intro z0 y1 y2 y3 y4 H locs ls h hP hD hS hl
    unfold m_moveAddress_236 at h
    obtain ⟨hi, h⟩ := gin_e h
    obtain ⟨z1, e1, h⟩ := bnd_e h
    refine ms_5 hx hb hK hP hD hS hi d_SlippedStreamsModel_moveAddress_236 e1 (fun H locs hP hD hS => ?_)
    refine lv_aload_n hx hb d_SlippedStreamsModel_moveAddress_237 rfl (lv_at hl 0 rfl) ?_
    refine lv_iconst (v := 0) hx hb d_SlippedStreamsModel_moveAddress_238 (by decide) ?_
    refine lv_iload_n hx hb d_SlippedStreamsModel_moveAddress_239 rfl (lv_at hl 1 rfl) ?_
    refine lv_iconst (v := 1) hx hb d_SlippedStreamsModel_moveAddress_240 (by decide) ?_
    refine lv_iadd hx hb d_SlippedStreamsModel_moveAddress_241 ?_
    obtain ⟨r2, z2, hc2, h⟩ := obn_e h
    refine q_gov (va_runV (As := [.int 0, .int (y1 + 1)]) (rest := []) ⟨hx, hb, hml, hown, hts⟩ (c_m_leave l dC dI cI cZ ad z1 0 (y1 + 1) _ hc2 _) (cwV 2 hts (q_goodL _ (q_l4 k_977 k_979 k_40 k_64) k_980) rfl rfl rfl (by decide +kernel) ⟨Nat.le_of_ble_eq_true rfl, Nat.le_of_ble_eq_true rfl⟩) (q_preV qok hKK hP hD (va_recv (ci := 9) (q0 := 0) hK hP rfl rfl)) rfl rfl hl.1 rfl (lv_room (Nat.le_of_ble_eq_true rfl)) d_SlippedStreamsModel_moveAddress_242 ⟨Nat.le_refl _, Nat.le_refl _⟩) hD hS hA (fun H locs hP hD hS => ?_)
    refine lv_iconst (v := 1) hx hb d_SlippedStreamsModel_moveAddress_245 (by decide) ?_
    exact q_zret hx hb hr hlocks h hP hD hS d_SlippedStreamsModel_moveAddress_246
  have jp_182 : ∀ (z0 : ST) (y1 y2 y3 y4 y5 : Int32) (H : Heap) (locs : List Loc) (ls : Array Slot), m_moveAddress_182 z0 y1 y2 y3 y4 y5 = some R → va_P (dC, dI) q_cl (wM cI cZ ad z0) H → va_D A (wM cI cZ ad z0) → va_S A s.heap H locs → lv_has ls 4 [(0, .ref (ad 0)), (1, .int y1), (2, .int y2), (3, .int y3)] → qWi p l e w_SlippedStreamsModel_moveAddress 8 179 s m [.ref (ad 0)] below meth c (dC, dI) q_cl (wM cI cZ ad) A R H locs (F0 m 182 ls [.int y5, .int y4, .ref (ad 0)]) := by
    intro z0 y1 y2 y3 y4 y5 H locs ls h hP hD hS hl
    unfold m_moveAddress_182 at h
    obtain ⟨r3, z3, hc3, h⟩ := obn_e h
    refine q_gov (va_runV (As := [.int y4, .int y5]) (rest := []) ⟨hx, hb, hml, hown, hts⟩ (c_m_leave l dC dI cI cZ ad z0 y4 y5 _ hc3 _) (cwV 2 hts (q_goodL _ (q_l4 k_977 k_979 k_40 k_64) k_980) rfl rfl rfl (by decide +kernel) ⟨Nat.le_of_ble_eq_true rfl, Nat.le_of_ble_eq_true rfl⟩) (q_preV qok hKK hP hD (va_recv (ci := 9) (q0 := 0) hK hP rfl rfl)) rfl rfl hl.1 rfl (lv_room (Nat.le_of_ble_eq_true rfl)) d_SlippedStreamsModel_moveAddress_182 ⟨Nat.le_refl _, Nat.le_refl _⟩) hD hS hA (fun H locs hP hD hS => ?_)
    refine lv_iconst (v := 1) hx hb d_SlippedStreamsModel_moveAddress_185 (by decide) ?_
    exact q_zret hx hb hr hlocks h hP hD hS d_SlippedStreamsModel_moveAddress_186
  have jp_161 : ∀ (z0 : ST) (y1 y2 y3 y4 y5 : Int32) (H : Heap) (locs : List Loc) (ls : Array Slot), m_moveAddress_161 z0 y1 y2 y3 y4 y5 = some R → va_P (dC, dI) q_cl (wM cI cZ ad z0) H → va_D A (wM cI cZ ad z0) → va_S A s.heap H locs → lv_has ls 4 [(0, .ref (ad 0)), (1, .int y1), (2, .int y2), (3, .int y3)] → qWi p l e w_SlippedStreamsModel_moveAddress 8 179 s m [.ref (ad 0)] below meth c (dC, dI) q_cl (wM cI cZ ad) A R H locs (F0 m 161 ls [.int y5, .int y4, .ref (ad 0)]) := by
    intro z0 y1 y2 y3 y4 y5 H locs ls h hP hD hS hl
    unfold m_moveAddress_161 at h
    obtain ⟨r4, z4, hc4, h⟩ := obn_e h
    refine q_gov (va_runV (As := [.int y4, .int y5]) (rest := []) ⟨hx, hb, hml, hown, hts⟩ (c_m_put l dC dI cI cZ ad z0 y4 y5 _ hc4 _) (cwV 2 hts (q_goodL _ (q_l4 k_973 k_975 k_39 k_64) k_976) rfl rfl rfl (by decide +kernel) ⟨Nat.le_of_ble_eq_true rfl, Nat.le_of_ble_eq_true rfl⟩) (q_preV qok hKK hP hD (va_recv (ci := 9) (q0 := 0) hK hP rfl rfl)) rfl rfl hl.1 rfl (lv_room (Nat.le_of_ble_eq_true rfl)) d_SlippedStreamsModel_moveAddress_161 ⟨Nat.le_refl _, Nat.le_refl _⟩) hD hS hA (fun H locs hP hD hS => ?_)
    refine lv_aload_n hx hb d_SlippedStreamsModel_moveAddress_164 rfl (lv_at hl 0 rfl) ?_
    refine lv_iconst (v := 0) hx hb d_SlippedStreamsModel_moveAddress_165 (by decide) ?_
    refine lv_iload_n hx hb d_SlippedStreamsModel_moveAddress_166 rfl (lv_at hl 3 rfl) ?_
    refine lv_if_eq (tgt := 179) hx hb d_SlippedStreamsModel_moveAddress_167 (by decide) (fun hc => ?_) (fun hc => ?_)
    · replace h := if_t hc h
      refine lv_iload_n hx hb d_SlippedStreamsModel_moveAddress_179 rfl (lv_at hl 1 rfl) ?_
      refine lv_iconst (v := 1) hx hb d_SlippedStreamsModel_moveAddress_180 (by decide) ?_
      refine lv_iadd hx hb d_SlippedStreamsModel_moveAddress_181 ?_
      exact jp_182 z4 y1 y2 y3 0 (y1 + 1) _ _ _ h hP hD hS (lv_sub hl [0, 1, 2, 3] rfl)
    · replace h := if_f hc h
      refine lv_aload_n hx hb d_SlippedStreamsModel_moveAddress_170 rfl (lv_at hl 0 rfl) ?_
      refine mg_0_cs hx hb hts hin_SlippedStreamsModel hown hK hP (hts _ k_817) (fun _ h9 => h9) d_SlippedStreamsModel_moveAddress_171 ?_
      refine lv_iload_n hx hb d_SlippedStreamsModel_moveAddress_174 rfl (lv_at hl 1 rfl) ?_
      obtain ⟨hi, h⟩ := gin_e h
      refine ml_3 hx hb hK hP hi d_SlippedStreamsModel_moveAddress_175 ?_
      refine lv_goto (tgt := 182) hx hb d_SlippedStreamsModel_moveAddress_176 (by decide) ?_
      exact jp_182 z4 y1 y2 y3 0 (z4.2 3 y1.toNatClampNeg) _ _ _ h hP hD hS (lv_sub hl [0, 1, 2, 3] rfl)
  unfold m_moveAddress at h
  refine lv_aload_n hx hb d_SlippedStreamsModel_moveAddress_0 rfl (lv_at hl 0 rfl) ?_
  refine mg_0_places hx hb hts hin_SlippedStreamsModel hown hK hP (hts _ k_822) (fun _ h9 => h9) d_SlippedStreamsModel_moveAddress_1 ?_
  refine lv_iconst (v := 0) hx hb d_SlippedStreamsModel_moveAddress_4 (by decide) ?_
  obtain ⟨hi, h⟩ := gin_e h
  refine ml_6 hx hb hK hP hi d_SlippedStreamsModel_moveAddress_5 ?_
  refine lv_istore_n (lv' := [(1, .int (z0.2 6 (0 : Int32).toNatClampNeg)), (0, .ref (ad 0))]) hx hb d_SlippedStreamsModel_moveAddress_6 rfl hl (by decide) rfl (fun ls hl => ?_)
  refine lv_aload_n hx hb d_SlippedStreamsModel_moveAddress_7 rfl (lv_at hl 1 rfl) ?_
  refine lv_iconst (v := 0) hx hb d_SlippedStreamsModel_moveAddress_8 (by decide) ?_
  obtain ⟨hv, h⟩ := gib_e h
  obtain ⟨z5, e5, h⟩ := bnd_e h
  refine mp_0_starved hx hb hts hin_SlippedStreamsModel hown hK hP hD hS (hts _ k_827) (fun _ h9 => h9) hv d_SlippedStreamsModel_moveAddress_9 e5 (fun H locs hP hD hS => ?_)
  refine lv_iload_n hx hb d_SlippedStreamsModel_moveAddress_12 rfl (lv_at hl 0 rfl) ?_
  refine lv_aload_n hx hb d_SlippedStreamsModel_moveAddress_13 rfl (lv_at hl 1 rfl) ?_
  refine mg_0_count hx hb hts hin_SlippedStreamsModel hown hK hP (hts _ k_813) (fun _ h9 => h9) d_SlippedStreamsModel_moveAddress_14 ?_
  refine lv_icmp_lt (tgt := 22) hx hb d_SlippedStreamsModel_moveAddress_17 (by decide) (fun hc => ?_) (fun hc => ?_)
  · replace h := if_t hc h
    refine lv_aload_n hx hb d_SlippedStreamsModel_moveAddress_22 rfl (lv_at hl 1 rfl) ?_
    refine mg_0_kinds hx hb hts hin_SlippedStreamsModel hown hK hP (hts _ k_814) (fun _ h9 => h9) d_SlippedStreamsModel_moveAddress_23 ?_
    refine lv_iload_n hx hb d_SlippedStreamsModel_moveAddress_26 rfl (lv_at hl 0 rfl) ?_
    obtain ⟨hi, h⟩ := gin_e h
    refine ml_0 hx hb hK hP hi d_SlippedStreamsModel_moveAddress_27 ?_
    refine lv_istore_n (lv' := [(2, .int (z5.2 0 (z0.2 6 (0 : Int32).toNatClampNeg).toNatClampNeg)), (1, .int (z0.2 6 (0 : Int32).toNatClampNeg)), (0, .ref (ad 0))]) hx hb d_SlippedStreamsModel_moveAddress_28 rfl hl (by decide) rfl (fun ls hl => ?_)
    refine lv_iload_n hx hb d_SlippedStreamsModel_moveAddress_29 rfl (lv_at hl 0 rfl) ?_
    refine lv_iconst (v := 4) hx hb d_SlippedStreamsModel_moveAddress_30 (by decide) ?_
    refine lv_icmp_ne (tgt := 40) hx hb d_SlippedStreamsModel_moveAddress_31 (by decide) (fun hc => ?_) (fun hc => ?_)
    · replace h := if_f hc h
      refine lv_iload_n hx hb d_SlippedStreamsModel_moveAddress_40 rfl (lv_at hl 0 rfl) ?_
      refine lv_iconst (v := 5) hx hb d_SlippedStreamsModel_moveAddress_41 (by decide) ?_
      refine lv_icmp_ne (tgt := 51) hx hb d_SlippedStreamsModel_moveAddress_42 (by decide) (fun hc => ?_) (fun hc => ?_)
      · replace h := if_f hc h
        refine lv_aload_n hx hb d_SlippedStreamsModel_moveAddress_51 rfl (lv_at hl 2 rfl) ?_
        refine lv_iload_n hx hb d_SlippedStreamsModel_moveAddress_52 rfl (lv_at hl 1 rfl) ?_
        obtain ⟨r6, z6, hc6, h⟩ := obn_e h
        refine q_goi (va_runV (As := [.int (z0.2 6 (0 : Int32).toNatClampNeg)]) (rest := []) ⟨hx, hb, hml, hown, hts⟩ (c_m_belongs l dC dI cI cZ ad z5 (z0.2 6 (0 : Int32).toNatClampNeg) _ hc6 _) (cwV 1 hts (q_goodL _ (q_l4 k_925 k_927 k_31 k_64) k_928) rfl rfl rfl (by decide +kernel) ⟨Nat.le_of_ble_eq_true rfl, Nat.le_of_ble_eq_true rfl⟩) (q_preV qok hKK hP hD (va_recv (ci := 9) (q0 := 0) hK hP rfl rfl)) rfl rfl hl.1 rfl (lv_room (Nat.le_of_ble_eq_true rfl)) d_SlippedStreamsModel_moveAddress_53 ⟨Nat.le_refl _, Nat.le_refl _⟩) hD hS hA (fun H locs hP hD hS => ?_)
        refine lv_iconst (v := 1) hx hb d_SlippedStreamsModel_moveAddress_56 (by decide) ?_
        refine lv_icmp_ne (tgt := 104) hx hb d_SlippedStreamsModel_moveAddress_57 (by decide) (fun hc => ?_) (fun hc => ?_)
        · replace h := if_f hc h
          refine lv_aload_n hx hb d_SlippedStreamsModel_moveAddress_104 rfl (lv_at hl 2 rfl) ?_
          refine lv_iload_n hx hb d_SlippedStreamsModel_moveAddress_105 rfl (lv_at hl 1 rfl) ?_
          obtain ⟨r7, z7, hc7, h⟩ := obn_e h
          refine q_goi (va_runV (As := [.int (z0.2 6 (0 : Int32).toNatClampNeg)]) (rest := []) ⟨hx, hb, hml, hown, hts⟩ (c_m_isBranch l dC dI cI cZ ad z6 (z0.2 6 (0 : Int32).toNatClampNeg) _ hc7 _) (cwV 1 hts (q_goodL _ (q_l4 k_921 k_923 k_30 k_64) k_924) rfl rfl rfl (by decide +kernel) ⟨Nat.le_of_ble_eq_true rfl, Nat.le_of_ble_eq_true rfl⟩) (q_preV qok hKK hP hD (va_recv (ci := 9) (q0 := 0) hK hP rfl rfl)) rfl rfl hl.1 rfl (lv_room (Nat.le_of_ble_eq_true rfl)) d_SlippedStreamsModel_moveAddress_106 ⟨Nat.le_refl _, Nat.le_refl _⟩) hD hS hA (fun H locs hP hD hS => ?_)
          refine lv_if_eq (tgt := 187) hx hb d_SlippedStreamsModel_moveAddress_109 (by decide) (fun hc => ?_) (fun hc => ?_)
          · replace h := if_t hc h
            refine lv_aload_n hx hb d_SlippedStreamsModel_moveAddress_187 rfl (lv_at hl 2 rfl) ?_
            refine mg_0_registers hx hb hts hin_SlippedStreamsModel hown hK hP (hts _ k_821) (fun _ h9 => h9) d_SlippedStreamsModel_moveAddress_188 ?_
            refine lv_aload_n hx hb d_SlippedStreamsModel_moveAddress_191 rfl (lv_at hl 2 rfl) ?_
            refine mg_0_as hx hb hts hin_SlippedStreamsModel hown hK hP (hts _ k_815) (fun _ h9 => h9) d_SlippedStreamsModel_moveAddress_192 ?_
            refine lv_iload_n hx hb d_SlippedStreamsModel_moveAddress_195 rfl (lv_at hl 1 rfl) ?_
            obtain ⟨hi, h⟩ := gin_e h
            refine ml_1 hx hb hK hP hi d_SlippedStreamsModel_moveAddress_196 ?_
            refine lv_iload_n hx hb d_SlippedStreamsModel_moveAddress_197 rfl (lv_at hl 0 rfl) ?_
            refine lv_if_ne (tgt := 210) hx hb d_SlippedStreamsModel_moveAddress_198 (by decide) (fun hc => ?_) (fun hc => ?_)
            · replace h := if_f hc h
              refine lv_iload_n hx hb d_SlippedStreamsModel_moveAddress_210 rfl (lv_at hl 0 rfl) ?_
              refine lv_aload_n hx hb d_SlippedStreamsModel_moveAddress_211 rfl (lv_at hl 2 rfl) ?_
              refine mg_0_registers hx hb hts hin_SlippedStreamsModel hown hK hP (hts _ k_821) (fun _ h9 => h9) d_SlippedStreamsModel_moveAddress_212 ?_
              refine lv_aload_n hx hb d_SlippedStreamsModel_moveAddress_215 rfl (lv_at hl 2 rfl) ?_
              refine mg_0_bs hx hb hts hin_SlippedStreamsModel hown hK hP (hts _ k_816) (fun _ h9 => h9) d_SlippedStreamsModel_moveAddress_216 ?_
              refine lv_iload_n hx hb d_SlippedStreamsModel_moveAddress_219 rfl (lv_at hl 1 rfl) ?_
              obtain ⟨hi, h⟩ := gin_e h
              refine ml_2 hx hb hK hP hi d_SlippedStreamsModel_moveAddress_220 ?_
              obtain ⟨hi, h⟩ := gin_e h
              refine ml_5 hx hb hK hP hi d_SlippedStreamsModel_moveAddress_221 ?_
              refine lv_aload_n hx hb d_SlippedStreamsModel_moveAddress_222 rfl (lv_at hl 2 rfl) ?_
              refine mg_0_registers hx hb hts hin_SlippedStreamsModel hown hK hP (hts _ k_821) (fun _ h9 => h9) d_SlippedStreamsModel_moveAddress_223 ?_
              refine lv_aload_n hx hb d_SlippedStreamsModel_moveAddress_226 rfl (lv_at hl 2 rfl) ?_
              refine mg_0_cs hx hb hts hin_SlippedStreamsModel hown hK hP (hts _ k_817) (fun _ h9 => h9) d_SlippedStreamsModel_moveAddress_227 ?_
              refine lv_iload_n hx hb d_SlippedStreamsModel_moveAddress_230 rfl (lv_at hl 1 rfl) ?_
              obtain ⟨hi, h⟩ := gin_e h
              refine ml_3 hx hb hK hP hi d_SlippedStreamsModel_moveAddress_231 ?_
              obtain ⟨hi, h⟩ := gin_e h
              refine ml_5 hx hb hK hP hi d_SlippedStreamsModel_moveAddress_232 ?_
              obtain ⟨r8, z8, hc8, h⟩ := obn_e h
              refine q_goi (va_runS (As := [.int (z5.2 0 (z0.2 6 (0 : Int32).toNatClampNeg).toNatClampNeg), .int (z7.2 5 (z7.2 2 (z0.2 6 (0 : Int32).toNatClampNeg).toNatClampNeg).toNatClampNeg), .int (z7.2 5 (z7.2 3 (z0.2 6 (0 : Int32).toNatClampNeg).toNatClampNeg).toNatClampNeg)]) (rest := [.int (z7.2 1 (z0.2 6 (0 : Int32).toNatClampNeg).toNatClampNeg), .ref (ad 6)]) ⟨hx, hb, hml, hown, hts⟩ (c_m_reckon l dC dI cI cZ ad z7 (z5.2 0 (z0.2 6 (0 : Int32).toNatClampNeg).toNatClampNeg) (z7.2 5 (z7.2 2 (z0.2 6 (0 : Int32).toNatClampNeg).toNatClampNeg).toNatClampNeg) (z7.2 5 (z7.2 3 (z0.2 6 (0 : Int32).toNatClampNeg).toNatClampNeg).toNatClampNeg) _ hc8 _) (va_cwS 3 hts (q_goodL _ (q_l3 k_1004 k_1005 k_64) k_1006) rfl rfl rfl (by decide +kernel) ⟨Nat.le_of_ble_eq_true rfl, Nat.le_of_ble_eq_true rfl⟩) (q_preS qok hKK hP hD) rfl rfl hl.1 rfl (lv_room (Nat.le_of_ble_eq_true rfl)) d_SlippedStreamsModel_moveAddress_233 ⟨Nat.le_refl _, Nat.le_refl _⟩) hD hS hA (fun H locs hP hD hS => ?_)
              exact jp_236 z8 (z0.2 6 (0 : Int32).toNatClampNeg) (z5.2 0 (z0.2 6 (0 : Int32).toNatClampNeg).toNatClampNeg) (z7.2 1 (z0.2 6 (0 : Int32).toNatClampNeg).toNatClampNeg) r8 _ _ _ h hP hD hS (lv_sub hl [2, 1, 0] rfl)
            · replace h := if_t hc h
              refine lv_aload_n hx hb d_SlippedStreamsModel_moveAddress_201 rfl (lv_at hl 2 rfl) ?_
              refine mg_0_cs hx hb hts hin_SlippedStreamsModel hown hK hP (hts _ k_817) (fun _ h9 => h9) d_SlippedStreamsModel_moveAddress_202 ?_
              refine lv_iload_n hx hb d_SlippedStreamsModel_moveAddress_205 rfl (lv_at hl 1 rfl) ?_
              obtain ⟨hi, h⟩ := gin_e h
              refine ml_3 hx hb hK hP hi d_SlippedStreamsModel_moveAddress_206 ?_
              refine lv_goto (tgt := 236) hx hb d_SlippedStreamsModel_moveAddress_207 (by decide) ?_
              exact jp_236 z7 (z0.2 6 (0 : Int32).toNatClampNeg) (z5.2 0 (z0.2 6 (0 : Int32).toNatClampNeg).toNatClampNeg) (z7.2 1 (z0.2 6 (0 : Int32).toNatClampNeg).toNatClampNeg) (z7.2 3 (z0.2 6 (0 : Int32).toNatClampNeg).toNatClampNeg) _ _ _ h hP hD hS (lv_sub hl [2, 1, 0] rfl)
          · replace h := if_f hc h
            refine lv_aload_n hx hb d_SlippedStreamsModel_moveAddress_112 rfl (lv_at hl 2 rfl) ?_
            refine lv_iconst (v := 2) hx hb d_SlippedStreamsModel_moveAddress_113 (by decide) ?_
            refine lv_iconst (v := 1) hx hb d_SlippedStreamsModel_moveAddress_114 (by decide) ?_
            obtain ⟨r9, z9, hc9, h⟩ := obn_e h
            refine q_goi (va_runV (As := [.int 2, .int 1]) (rest := []) ⟨hx, hb, hml, hown, hts⟩ (c_m_hasRoom l dC dI cI cZ ad z7 2 1 _ hc9 _) (cwV 2 hts (q_goodL _ (q_l4 k_969 k_971 k_38 k_64) k_972) rfl rfl rfl (by decide +kernel) ⟨Nat.le_of_ble_eq_true rfl, Nat.le_of_ble_eq_true rfl⟩) (q_preV qok hKK hP hD (va_recv (ci := 9) (q0 := 0) hK hP rfl rfl)) rfl rfl hl.1 rfl (lv_room (Nat.le_of_ble_eq_true rfl)) d_SlippedStreamsModel_moveAddress_115 ⟨Nat.le_refl _, Nat.le_refl _⟩) hD hS hA (fun H locs hP hD hS => ?_)
            refine lv_if_ne (tgt := 123) hx hb d_SlippedStreamsModel_moveAddress_118 (by decide) (fun hc => ?_) (fun hc => ?_)
            · replace h := if_f hc h
              refine lv_iload_n hx hb d_SlippedStreamsModel_moveAddress_123 rfl (lv_at hl 0 rfl) ?_
              refine lv_aload_n hx hb d_SlippedStreamsModel_moveAddress_124 rfl (lv_at hl 2 rfl) ?_
              refine mg_0_registers hx hb hts hin_SlippedStreamsModel hown hK hP (hts _ k_821) (fun _ h9 => h9) d_SlippedStreamsModel_moveAddress_125 ?_
              refine lv_aload_n hx hb d_SlippedStreamsModel_moveAddress_128 rfl (lv_at hl 2 rfl) ?_
              refine mg_0_as hx hb hts hin_SlippedStreamsModel hown hK hP (hts _ k_815) (fun _ h9 => h9) d_SlippedStreamsModel_moveAddress_129 ?_
              refine lv_iload_n hx hb d_SlippedStreamsModel_moveAddress_132 rfl (lv_at hl 1 rfl) ?_
              obtain ⟨hi, h⟩ := gin_e h
              refine ml_1 hx hb hK hP hi d_SlippedStreamsModel_moveAddress_133 ?_
              obtain ⟨hi, h⟩ := gin_e h
              refine ml_5 hx hb hK hP hi d_SlippedStreamsModel_moveAddress_134 ?_
              refine lv_aload_n hx hb d_SlippedStreamsModel_moveAddress_135 rfl (lv_at hl 2 rfl) ?_
              refine mg_0_registers hx hb hts hin_SlippedStreamsModel hown hK hP (hts _ k_821) (fun _ h9 => h9) d_SlippedStreamsModel_moveAddress_136 ?_
              refine lv_aload_n hx hb d_SlippedStreamsModel_moveAddress_139 rfl (lv_at hl 2 rfl) ?_
              refine mg_0_bs hx hb hts hin_SlippedStreamsModel hown hK hP (hts _ k_816) (fun _ h9 => h9) d_SlippedStreamsModel_moveAddress_140 ?_
              refine lv_iload_n hx hb d_SlippedStreamsModel_moveAddress_143 rfl (lv_at hl 1 rfl) ?_
              obtain ⟨hi, h⟩ := gin_e h
              refine ml_2 hx hb hK hP hi d_SlippedStreamsModel_moveAddress_144 ?_
              obtain ⟨hi, h⟩ := gin_e h
              refine ml_5 hx hb hK hP hi d_SlippedStreamsModel_moveAddress_145 ?_
              obtain ⟨r10, z10, hc10, h⟩ := obn_e h
              refine q_goi (va_runS (As := [.int (z5.2 0 (z0.2 6 (0 : Int32).toNatClampNeg).toNatClampNeg), .int (z9.2 5 (z9.2 1 (z0.2 6 (0 : Int32).toNatClampNeg).toNatClampNeg).toNatClampNeg), .int (z9.2 5 (z9.2 2 (z0.2 6 (0 : Int32).toNatClampNeg).toNatClampNeg).toNatClampNeg)]) (rest := []) ⟨hx, hb, hml, hown, hts⟩ (c_m_holds l dC dI cI cZ ad z9 (z5.2 0 (z0.2 6 (0 : Int32).toNatClampNeg).toNatClampNeg) (z9.2 5 (z9.2 1 (z0.2 6 (0 : Int32).toNatClampNeg).toNatClampNeg).toNatClampNeg) (z9.2 5 (z9.2 2 (z0.2 6 (0 : Int32).toNatClampNeg).toNatClampNeg).toNatClampNeg) _ hc10 _) (va_cwS 3 hts (q_goodL _ (q_l3 k_1001 k_1002 k_64) k_1003) rfl rfl rfl (by decide +kernel) ⟨Nat.le_of_ble_eq_true rfl, Nat.le_of_ble_eq_true rfl⟩) (q_preS qok hKK hP hD) rfl rfl hl.1 rfl (lv_room (Nat.le_of_ble_eq_true rfl)) d_SlippedStreamsModel_moveAddress_146 ⟨Nat.le_refl _, Nat.le_refl _⟩) hD hS hA (fun H locs hP hD hS => ?_)
              refine lv_istore_n (lv' := [(3, .int r10), (2, .int (z5.2 0 (z0.2 6 (0 : Int32).toNatClampNeg).toNatClampNeg)), (1, .int (z0.2 6 (0 : Int32).toNatClampNeg)), (0, .ref (ad 0))]) hx hb d_SlippedStreamsModel_moveAddress_149 rfl hl (by decide) rfl (fun ls hl => ?_)
              refine lv_aload_n hx hb d_SlippedStreamsModel_moveAddress_150 rfl (lv_at hl 3 rfl) ?_
              refine lv_iconst (v := 2) hx hb d_SlippedStreamsModel_moveAddress_151 (by decide) ?_
              refine lv_iload_n hx hb d_SlippedStreamsModel_moveAddress_152 rfl (lv_at hl 0 rfl) ?_
              refine lv_if_eq (tgt := 160) hx hb d_SlippedStreamsModel_moveAddress_153 (by decide) (fun hc => ?_) (fun hc => ?_)
              · replace h := if_t hc h
                refine lv_iconst (v := 0) hx hb d_SlippedStreamsModel_moveAddress_160 (by decide) ?_
                exact jp_161 z10 (z0.2 6 (0 : Int32).toNatClampNeg) (z5.2 0 (z0.2 6 (0 : Int32).toNatClampNeg).toNatClampNeg) r10 2 0 _ _ _ h hP hD hS (lv_sub hl [3, 2, 1, 0] rfl)
              · replace h := if_f hc h
                refine lv_iconst (v := 1) hx hb d_SlippedStreamsModel_moveAddress_156 (by decide) ?_
                refine lv_goto (tgt := 161) hx hb d_SlippedStreamsModel_moveAddress_157 (by decide) ?_
                exact jp_161 z10 (z0.2 6 (0 : Int32).toNatClampNeg) (z5.2 0 (z0.2 6 (0 : Int32).toNatClampNeg).toNatClampNeg) r10 2 1 _ _ _ h hP hD hS (lv_sub hl [3, 2, 1, 0] rfl)
            · replace h := if_t hc h
              refine lv_iconst (v := 0) hx hb d_SlippedStreamsModel_moveAddress_121 (by decide) ?_
              exact q_zret hx hb hr hlocks h hP hD hS d_SlippedStreamsModel_moveAddress_122
        · replace h := if_t hc h
          refine lv_aload_n hx hb d_SlippedStreamsModel_moveAddress_60 rfl (lv_at hl 2 rfl) ?_
          refine lv_iload_n hx hb d_SlippedStreamsModel_moveAddress_61 rfl (lv_at hl 1 rfl) ?_
          obtain ⟨r11, z11, hc11, h⟩ := obn_e h
          refine q_goi (va_runV (As := [.int (z0.2 6 (0 : Int32).toNatClampNeg)]) (rest := []) ⟨hx, hb, hml, hown, hts⟩ (c_m_isBranch l dC dI cI cZ ad z6 (z0.2 6 (0 : Int32).toNatClampNeg) _ hc11 _) (cwV 1 hts (q_goodL _ (q_l4 k_921 k_923 k_30 k_64) k_924) rfl rfl rfl (by decide +kernel) ⟨Nat.le_of_ble_eq_true rfl, Nat.le_of_ble_eq_true rfl⟩) (q_preV qok hKK hP hD (va_recv (ci := 9) (q0 := 0) hK hP rfl rfl)) rfl rfl hl.1 rfl (lv_room (Nat.le_of_ble_eq_true rfl)) d_SlippedStreamsModel_moveAddress_62 ⟨Nat.le_refl _, Nat.le_refl _⟩) hD hS hA (fun H locs hP hD hS => ?_)
          refine lv_if_eq (tgt := 74) hx hb d_SlippedStreamsModel_moveAddress_65 (by decide) (fun hc => ?_) (fun hc => ?_)
          · replace h := if_t hc h
            refine lv_aload_n hx hb d_SlippedStreamsModel_moveAddress_74 rfl (lv_at hl 2 rfl) ?_
            refine lv_iconst (v := 4) hx hb d_SlippedStreamsModel_moveAddress_75 (by decide) ?_
            refine lv_aload_n hx hb d_SlippedStreamsModel_moveAddress_76 rfl (lv_at hl 2 rfl) ?_
            refine lv_iload_n hx hb d_SlippedStreamsModel_moveAddress_77 rfl (lv_at hl 1 rfl) ?_
            obtain ⟨r12, z12, hc12, h⟩ := obn_e h
            refine q_goi (va_runV (As := [.int (z0.2 6 (0 : Int32).toNatClampNeg)]) (rest := [.int 4, .ref (ad 0)]) ⟨hx, hb, hml, hown, hts⟩ (c_m_howMany l dC dI cI cZ ad z11 (z0.2 6 (0 : Int32).toNatClampNeg) _ hc12 _) (cwV 1 hts (q_goodL _ (q_l4 k_929 k_931 k_32 k_64) k_932) rfl rfl rfl (by decide +kernel) ⟨Nat.le_of_ble_eq_true rfl, Nat.le_of_ble_eq_true rfl⟩) (q_preV qok hKK hP hD (va_recv (ci := 9) (q0 := 0) hK hP rfl rfl)) rfl rfl hl.1 rfl (lv_room (Nat.le_of_ble_eq_true rfl)) d_SlippedStreamsModel_moveAddress_78 ⟨Nat.le_refl _, Nat.le_refl _⟩) hD hS hA (fun H locs hP hD hS => ?_)
            obtain ⟨r13, z13, hc13, h⟩ := obn_e h
            refine q_goi (va_runV (As := [.int 4, .int r12]) (rest := []) ⟨hx, hb, hml, hown, hts⟩ (c_m_hasRoom l dC dI cI cZ ad z12 4 r12 _ hc13 _) (cwV 2 hts (q_goodL _ (q_l4 k_969 k_971 k_38 k_64) k_972) rfl rfl rfl (by decide +kernel) ⟨Nat.le_of_ble_eq_true rfl, Nat.le_of_ble_eq_true rfl⟩) (q_preV qok hKK hP hD (va_recv (ci := 9) (q0 := 0) hK hP rfl rfl)) rfl rfl hl.1 rfl (lv_room (Nat.le_of_ble_eq_true rfl)) d_SlippedStreamsModel_moveAddress_81 ⟨Nat.le_refl _, Nat.le_refl _⟩) hD hS hA (fun H locs hP hD hS => ?_)
            refine lv_if_ne (tgt := 89) hx hb d_SlippedStreamsModel_moveAddress_84 (by decide) (fun hc => ?_) (fun hc => ?_)
            · replace h := if_f hc h
              refine lv_aload_n hx hb d_SlippedStreamsModel_moveAddress_89 rfl (lv_at hl 2 rfl) ?_
              refine lv_iload_n hx hb d_SlippedStreamsModel_moveAddress_90 rfl (lv_at hl 1 rfl) ?_
              obtain ⟨r14, z14, hc14, h⟩ := obn_e h
              refine q_gov (va_runV (As := [.int (z0.2 6 (0 : Int32).toNatClampNeg)]) (rest := []) ⟨hx, hb, hml, hown, hts⟩ (c_m_hand l dC dI cI cZ ad z13 (z0.2 6 (0 : Int32).toNatClampNeg) _ hc14 _) (cwV 1 hts (q_goodL _ (q_l4 k_997 k_999 k_45 k_64) k_1000) rfl rfl rfl (by decide +kernel) ⟨Nat.le_of_ble_eq_true rfl, Nat.le_of_ble_eq_true rfl⟩) (q_preV qok hKK hP hD (va_recv (ci := 9) (q0 := 0) hK hP rfl rfl)) rfl rfl hl.1 rfl (lv_room (Nat.le_of_ble_eq_true rfl)) d_SlippedStreamsModel_moveAddress_91 ⟨Nat.le_refl _, Nat.le_refl _⟩) hD hS hA (fun H locs hP hD hS => ?_)
              refine lv_aload_n hx hb d_SlippedStreamsModel_moveAddress_94 rfl (lv_at hl 2 rfl) ?_
              refine lv_iconst (v := 0) hx hb d_SlippedStreamsModel_moveAddress_95 (by decide) ?_
              refine lv_iload_n hx hb d_SlippedStreamsModel_moveAddress_96 rfl (lv_at hl 1 rfl) ?_
              refine lv_iconst (v := 1) hx hb d_SlippedStreamsModel_moveAddress_97 (by decide) ?_
              refine lv_iadd hx hb d_SlippedStreamsModel_moveAddress_98 ?_
              obtain ⟨r15, z15, hc15, h⟩ := obn_e h
              refine q_gov (va_runV (As := [.int 0, .int ((z0.2 6 (0 : Int32).toNatClampNeg) + 1)]) (rest := []) ⟨hx, hb, hml, hown, hts⟩ (c_m_leave l dC dI cI cZ ad z14 0 ((z0.2 6 (0 : Int32).toNatClampNeg) + 1) _ hc15 _) (cwV 2 hts (q_goodL _ (q_l4 k_977 k_979 k_40 k_64) k_980) rfl rfl rfl (by decide +kernel) ⟨Nat.le_of_ble_eq_true rfl, Nat.le_of_ble_eq_true rfl⟩) (q_preV qok hKK hP hD (va_recv (ci := 9) (q0 := 0) hK hP rfl rfl)) rfl rfl hl.1 rfl (lv_room (Nat.le_of_ble_eq_true rfl)) d_SlippedStreamsModel_moveAddress_99 ⟨Nat.le_refl _, Nat.le_refl _⟩) hD hS hA (fun H locs hP hD hS => ?_)
              refine lv_iconst (v := 1) hx hb d_SlippedStreamsModel_moveAddress_102 (by decide) ?_
              exact q_zret hx hb hr hlocks h hP hD hS d_SlippedStreamsModel_moveAddress_103
            · replace h := if_t hc h
              refine lv_iconst (v := 0) hx hb d_SlippedStreamsModel_moveAddress_87 (by decide) ?_
              exact q_zret hx hb hr hlocks h hP hD hS d_SlippedStreamsModel_moveAddress_88
          · replace h := if_f hc h
            refine lv_aload_n hx hb d_SlippedStreamsModel_moveAddress_68 rfl (lv_at hl 2 rfl) ?_
            refine lv_iload_n hx hb d_SlippedStreamsModel_moveAddress_69 rfl (lv_at hl 1 rfl) ?_
            obtain ⟨r16, z16, hc16, h⟩ := obn_e h
            refine q_goi (va_runV (As := [.int (z0.2 6 (0 : Int32).toNatClampNeg)]) (rest := []) ⟨hx, hb, hml, hown, hts⟩ (c_m_follow l dC dI cI cZ ad z11 (z0.2 6 (0 : Int32).toNatClampNeg) _ hc16 _) (cwV 1 hts (q_goodL _ (q_l4 k_993 k_995 k_44 k_64) k_996) rfl rfl rfl (by decide +kernel) ⟨Nat.le_of_ble_eq_true rfl, Nat.le_of_ble_eq_true rfl⟩) (q_preV qok hKK hP hD (va_recv (ci := 9) (q0 := 0) hK hP rfl rfl)) rfl rfl hl.1 rfl (lv_room (Nat.le_of_ble_eq_true rfl)) d_SlippedStreamsModel_moveAddress_70 ⟨Nat.le_refl _, Nat.le_refl _⟩) hD hS hA (fun H locs hP hD hS => ?_)
            exact q_zret hx hb hr hlocks h hP hD hS d_SlippedStreamsModel_moveAddress_73
      · replace h := if_t hc h
        refine lv_aload_n hx hb d_SlippedStreamsModel_moveAddress_45 rfl (lv_at hl 2 rfl) ?_
        refine lv_iload_n hx hb d_SlippedStreamsModel_moveAddress_46 rfl (lv_at hl 1 rfl) ?_
        obtain ⟨r17, z17, hc17, h⟩ := obn_e h
        refine q_goi (va_runV (As := [.int (z0.2 6 (0 : Int32).toNatClampNeg)]) (rest := []) ⟨hx, hb, hml, hown, hts⟩ (c_m_store l dC dI cI cZ ad z5 (z0.2 6 (0 : Int32).toNatClampNeg) _ hc17 _) (cwV 1 hts (q_goodL _ (q_l4 k_981 k_983 k_41 k_64) k_984) rfl rfl rfl (by decide +kernel) ⟨Nat.le_of_ble_eq_true rfl, Nat.le_of_ble_eq_true rfl⟩) (q_preV qok hKK hP hD (va_recv (ci := 9) (q0 := 0) hK hP rfl rfl)) rfl rfl hl.1 rfl (lv_room (Nat.le_of_ble_eq_true rfl)) d_SlippedStreamsModel_moveAddress_47 ⟨Nat.le_refl _, Nat.le_refl _⟩) hD hS hA (fun H locs hP hD hS => ?_)
        exact q_zret hx hb hr hlocks h hP hD hS d_SlippedStreamsModel_moveAddress_50
    · replace h := if_t hc h
      refine lv_aload_n hx hb d_SlippedStreamsModel_moveAddress_34 rfl (lv_at hl 2 rfl) ?_
      refine lv_iload_n hx hb d_SlippedStreamsModel_moveAddress_35 rfl (lv_at hl 1 rfl) ?_
      obtain ⟨r18, z18, hc18, h⟩ := obn_e h
      refine q_goi (va_runV (As := [.int (z0.2 6 (0 : Int32).toNatClampNeg)]) (rest := []) ⟨hx, hb, hml, hown, hts⟩ (c_m_load l dC dI cI cZ ad z5 (z0.2 6 (0 : Int32).toNatClampNeg) _ hc18 _) (cwV 1 hts (q_goodL _ (q_l4 k_961 k_963 k_36 k_64) k_964) rfl rfl rfl (by decide +kernel) ⟨Nat.le_of_ble_eq_true rfl, Nat.le_of_ble_eq_true rfl⟩) (q_preV qok hKK hP hD (va_recv (ci := 9) (q0 := 0) hK hP rfl rfl)) rfl rfl hl.1 rfl (lv_room (Nat.le_of_ble_eq_true rfl)) d_SlippedStreamsModel_moveAddress_36 ⟨Nat.le_refl _, Nat.le_refl _⟩) hD hS hA (fun H locs hP hD hS => ?_)
      exact q_zret hx hb hr hlocks h hP hD hS d_SlippedStreamsModel_moveAddress_39
  · replace h := if_f hc h
    refine lv_iconst (v := 0) hx hb d_SlippedStreamsModel_moveAddress_20 (by decide) ?_
    exact q_zret hx hb hr hlocks h hP hD hS d_SlippedStreamsModel_moveAddress_21
