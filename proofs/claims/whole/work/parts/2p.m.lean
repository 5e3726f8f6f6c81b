def m_address_g0 (k : Nat → ST → Int32 → Int32 → Int32 → OR) (z0 : ST) (y1 y2 y3 : Int32) : OR := obn (m_isCount z0 y1) (fun r1 z1 => if r1 = 0 then (some ((-1), z1)) else (k 1 z1 y1 0 0))
def m_address_g11 (k : Nat → ST → Int32 → Int32 → Int32 → OR) (z0 : ST) (y1 y2 y3 : Int32) : OR := if y1 ≤ y2 then (k 2 z0 y1 y2 0) else (obn (m_moveAddress z0) (fun r2 z2 => if r2 = 0 then (k 2 z2 y1 y2 0) else (k 1 z2 y1 (y2 + 1) 0)))
def m_address_g30 (k : Nat → ST → Int32 → Int32 → Int32 → OR) (z0 : ST) (y1 y2 y3 : Int32) : OR := if y1 ≤ y2 then (k 3 z0 y1 y2 0) else (if (z0.1 5) = 0 then (k 3 z0 y1 y2 0) else (k 4 z0 y1 y2 ((z0.1 4) + 1)))
def m_address_g52 (k : Nat → ST → Int32 → Int32 → Int32 → OR) (z0 : ST) (y1 y2 y3 : Int32) : OR := k 4 z0 y1 y2 (z0.1 4)
def m_address_g56 (k : Nat → ST → Int32 → Int32 → Int32 → OR) (z0 : ST) (y1 y2 y3 : Int32) : OR := bnd (stI z0 4 y3) (fun z3 => some (y2, z3))
def m_address_g (k : Nat → ST → Int32 → Int32 → Int32 → OR) (n : Nat) : ST → Int32 → Int32 → Int32 → OR := match n with
  | 0 => m_address_g0 k
  | 1 => m_address_g11 k
  | 2 => m_address_g30 k
  | 3 => m_address_g52 k
  | 4 => m_address_g56 k
  | _ => fun _ _ _ _ => none
def m_address_f : Nat → Nat → ST → Int32 → Int32 → Int32 → OR
  | 0 => fun _ _ _ _ _ => none
  | n + 1 => m_address_g (m_address_f n)
def m_address (z0 : ST) (x1 : Int32) : OR := m_address_f 4000 0 z0 x1 0 0
set_option maxRecDepth 100000 in
set_option maxHeartbeats 4000000 in
theorem c_m_address (l : Launch) (dC : Nat → ClassId) (dI : Nat → Nat → Nat) (cI cZ : ClassId) (ad : Nat → Nat) (z0 : ST) (x1 : Int32) (R : Int32 × ST) (h : m_address z0 x1 = some R) : qMi l y_SlippedStreamsModel_address w_SlippedStreamsModel_address 9 202 (KX dC dI cI cZ) (dC, dI) q_cl (wM cI cZ ad) [.ref (ad 0), .int x1] z0 R := by
  intro sz
  refine Met.ofW (cc := b_SlippedStreamsModel_address) (maxL := 3) (ret := (some .int)) (by decide) rfl ?_
  intro p e s m args below meth c s₁ B hml hv
  obtain ⟨rfl, hsz, hP, hKK, hD0⟩ := hv
  have hx := B.exec
  have hb := B.bytes
  have hr := B.returns
  have hts : ∀ w ∈ q_big, w.before _ s = true := fun w h => atoms_spec (ws := w_SlippedStreamsModel_address) B.pre w (List.mem_cons_of_mem _ h)
  have hown : s.vm.findClass "SlippedStreamsModel" = some m.cls := findClass_of_methodNamed B.named
  have hlocks := B.notSynchronized
  subst hsz
  have hD := hD0.self (sz := s.heap.size)
  generalize hAe : va_A (wM cI cZ ad z0) s.heap.size = A at hD ⊢
  have hA : ∀ q : Nat, s.heap.size ≤ q → A q := fun q h => by rw [← hAe]; exact Or.inr h
  have hS : va_S A s.heap s.heap [] := va_S.rf
  have hK := hKK.1
  have hl := lv_entry ([.ref (ad 0), .int x1]) (n := 3) (Nat.le_of_ble_eq_true rfl)
  rw [lg_entry_eq]
  generalize (lg_sl ([.ref (ad 0), .int x1]) ++ List.replicate (3 - (lg_sl ([.ref (ad 0), .int x1])).length) Slot.unset).toArray = ls at hl ⊢
  have hl : lv_has ls 3 [(0, .ref (ad 0)), (1, .int x1)] := hl
  have key : ∀ n : Nat, (∀ (z0 : ST) (y1 y2 y3 : Int32) (H : Heap) (locs : List Loc) (ls : Array Slot), m_address_f n 0 z0 y1 y2 y3 = some R → va_P (dC, dI) q_cl (wM cI cZ ad z0) H → va_D A (wM cI cZ ad z0) → va_S A s.heap H locs → lv_has ls 3 [(0, .ref (ad 0)), (1, .int y1)] → qWi p l e w_SlippedStreamsModel_address 9 202 s m [.ref (ad 0), .int x1] below meth c (dC, dI) q_cl (wM cI cZ ad) A R H locs (F0 m 0 ls [])) ∧ (∀ (z0 : ST) (y1 y2 y3 : Int32) (H : Heap) (locs : List Loc) (ls : Array Slot), m_address_f n 1 z0 y1 y2 y3 = some R → va_P (dC, dI) q_cl (wM cI cZ ad z0) H → va_D A (wM cI cZ ad z0) → va_S A s.heap H locs → lv_has ls 3 [(0, .ref (ad 0)), (1, .int y1), (2, .int y2)] → qWi p l e w_SlippedStreamsModel_address 9 202 s m [.ref (ad 0), .int x1] below meth c (dC, dI) q_cl (wM cI cZ ad) A R H locs (F0 m 11 ls [])) ∧ (∀ (z0 : ST) (y1 y2 y3 : Int32) (H : Heap) (locs : List Loc) (ls : Array Slot), m_address_f n 2 z0 y1 y2 y3 = some R → va_P (dC, dI) q_cl (wM cI cZ ad z0) H → va_D A (wM cI cZ ad z0) → va_S A s.heap H locs → lv_has ls 3 [(0, .ref (ad 0)), (1, .int y1), (2, .int y2)] → qWi p l e w_SlippedStreamsModel_address 9 202 s m [.ref (ad 0), .int x1] below meth c (dC, dI) q_cl (wM cI cZ ad) A R H locs (F0 m 30 ls [])) ∧ (∀ (z0 : ST) (y1 y2 y3 : Int32) (H : Heap) (locs : List Loc) (ls : Array Slot), m_address_f n 3 z0 y1 y2 y3 = some R → va_P (dC, dI) q_cl (wM cI cZ ad z0) H → va_D A (wM cI cZ ad z0) → va_S A s.heap H locs → lv_has ls 3 [(0, .ref (ad 0)), (1, .int y1), (2, .int y2)] → qWi p l e w_SlippedStreamsModel_address 9 202 s m [.ref (ad 0), .int x1] below meth c (dC, dI) q_cl (wM cI cZ ad) A R H locs (F0 m 52 ls [.ref (ad 0)])) ∧ (∀ (z0 : ST) (y1 y2 y3 : Int32) (H : Heap) (locs : List Loc) (ls : Array Slot), m_address_f n 4 z0 y1 y2 y3 = some R → va_P (dC, dI) q_cl (wM cI cZ ad z0) H → va_D A (wM cI cZ ad z0) → va_S A s.heap H locs → lv_has ls 3 [(0, .ref (ad 0)), (1, .int y1), (2, .int y2)] → qWi p l e w_SlippedStreamsModel_address 9 202 s m [.ref (ad 0), .int x1] below meth c (dC, dI) q_cl (wM cI cZ ad) A R H locs (F0 m 56 ls [.int y3, .ref (ad 0)])) := by
    intro n
    induction n with
    | zero => exact ⟨fun z0 y1 y2 y3 H locs ls h hP hD hS hl => (by cases h), fun z0 y1 y2 y3 H locs ls h hP hD hS hl => (by cases h), fun z0 y1 y2 y3 H locs ls h hP hD hS hl => (by cases h), fun z0 y1 y2 y3 H locs ls h hP hD hS hl => (by cases h), fun z0 y1 y2 y3 H locs ls h hP hD hS hl => (by cases h)⟩
    | succ n ih =>
      obtain ⟨jp_0, jp_11, jp_30, jp_52, jp_56⟩ := ih
      refine ⟨?_, ?_, ?_, ?_, ?_⟩
      · intro z0 y1 y2 y3 H locs ls h hP hD hS hl
        replace h : m_address_g0 (m_address_f n) z0 y1 y2 y3 = some R := h
        unfold m_address_g0 at h
        refine lv_iload_n hx hb d_SlippedStreamsModel_address_0 rfl (lv_at hl 1 rfl) ?_
        obtain ⟨r1, z1, hc1, h⟩ := obn_e h
        refine q_goi (va_runS (As := [.int y1]) (rest := []) ⟨hx, hb, hml, hown, hts⟩ (c_m_isCount l dC dI cI cZ ad z0 y1 _ hc1 _) (va_cwS 1 hts (q_goodL _ (q_l3 k_954 k_955 k_64) k_956) rfl rfl rfl (by decide +kernel) ⟨Nat.le_of_ble_eq_true rfl, Nat.le_of_ble_eq_true rfl⟩) (q_preS qok hKK hP hD) rfl rfl hl.1 rfl (lv_room (Nat.le_of_ble_eq_true rfl)) d_SlippedStreamsModel_address_1 ⟨Nat.le_refl _, Nat.le_refl _⟩) hD hS hA (fun H locs hP hD hS => ?_)
        refine lv_if_ne (tgt := 9) hx hb d_SlippedStreamsModel_address_4 (by decide) (fun hc => ?_) (fun hc => ?_)
        · replace h := if_f hc h
          refine lv_iconst (v := 0) hx hb d_SlippedStreamsModel_address_9 (by decide) ?_
          refine lv_istore_n (lv' := [(2, .int 0), (0, .ref (ad 0)), (1, .int y1)]) hx hb d_SlippedStreamsModel_address_10 rfl hl (by decide) rfl (fun ls hl => ?_)
          exact jp_11 z1 y1 0 0 _ _ _ h hP hD hS (lv_sub hl [1, 2, 0] rfl)
        · replace h := if_t hc h
          refine lv_iconst (v := (-1)) hx hb d_SlippedStreamsModel_address_7 (by decide) ?_
          exact q_iret hx hb hr hlocks h hP hD hS d_SlippedStreamsModel_address_8
      · intro z0 y1 y2 y3 H locs ls h hP hD hS hl
        replace h : m_address_g11 (m_address_f n) z0 y1 y2 y3 = some R := h
        unfold m_address_g11 at h
        refine lv_iload_n hx hb d_SlippedStreamsModel_address_11 rfl (lv_at hl 2 rfl) ?_
        refine lv_iload_n hx hb d_SlippedStreamsModel_address_12 rfl (lv_at hl 1 rfl) ?_
        refine lv_icmp_ge (tgt := 30) hx hb d_SlippedStreamsModel_address_13 (by decide) (fun hc => ?_) (fun hc => ?_)
        · replace h := if_t hc h
          exact jp_30 z0 y1 y2 0 _ _ _ h hP hD hS (lv_sub hl [0, 1, 2] rfl)
        · replace h := if_f hc h
          refine lv_aload_n hx hb d_SlippedStreamsModel_address_16 rfl (lv_at hl 0 rfl) ?_
          obtain ⟨r2, z2, hc2, h⟩ := obn_e h
          refine q_goi (va_runV (As := []) (rest := []) ⟨hx, hb, hml, hown, hts⟩ (c_m_moveAddress l dC dI cI cZ ad z0 _ hc2 _) (cwV 0 hts (q_goodL _ (q_l4 k_957 k_959 k_35 k_64) k_960) rfl rfl rfl (by decide +kernel) ⟨Nat.le_of_ble_eq_true rfl, Nat.le_of_ble_eq_true rfl⟩) (q_preV qok hKK hP hD (va_recv (ci := 9) (q0 := 0) hK hP rfl rfl)) rfl rfl hl.1 rfl (lv_room (Nat.le_of_ble_eq_true rfl)) d_SlippedStreamsModel_address_17 ⟨Nat.le_refl _, Nat.le_refl _⟩) hD hS hA (fun H locs hP hD hS => ?_)
          refine lv_if_eq (tgt := 30) hx hb d_SlippedStreamsModel_address_20 (by decide) (fun hc => ?_) (fun hc => ?_)
          · replace h := if_t hc h
            exact jp_30 z2 y1 y2 0 _ _ _ h hP hD hS (lv_sub hl [0, 1, 2] rfl)
          · replace h := if_f hc h
            refine lv_iload_n hx hb d_SlippedStreamsModel_address_23 rfl (lv_at hl 2 rfl) ?_
            refine lv_iconst (v := 1) hx hb d_SlippedStreamsModel_address_24 (by decide) ?_
            refine lv_iadd hx hb d_SlippedStreamsModel_address_25 ?_
            refine lv_istore_n (lv' := [(2, .int (y2 + 1)), (0, .ref (ad 0)), (1, .int y1)]) hx hb d_SlippedStreamsModel_address_26 rfl hl (by decide) rfl (fun ls hl => ?_)
            refine lv_goto (tgt := 11) hx hb d_SlippedStreamsModel_address_27 (by decide) ?_
            exact jp_11 z2 y1 (y2 + 1) 0 _ _ _ h hP hD hS (lv_sub hl [1, 2, 0] rfl)
      · intro z0 y1 y2 y3 H locs ls h hP hD hS hl
        replace h : m_address_g30 (m_address_f n) z0 y1 y2 y3 = some R := h
        unfold m_address_g30 at h
        refine lv_aload_n hx hb d_SlippedStreamsModel_address_30 rfl (lv_at hl 0 rfl) ?_
        refine lv_iload_n hx hb d_SlippedStreamsModel_address_31 rfl (lv_at hl 2 rfl) ?_
        refine lv_iload_n hx hb d_SlippedStreamsModel_address_32 rfl (lv_at hl 1 rfl) ?_
        refine lv_icmp_ge (tgt := 52) hx hb d_SlippedStreamsModel_address_33 (by decide) (fun hc => ?_) (fun hc => ?_)
        · replace h := if_t hc h
          exact jp_52 z0 y1 y2 0 _ _ _ h hP hD hS (lv_sub hl [0, 1, 2] rfl)
        · replace h := if_f hc h
          refine lv_aload_n hx hb d_SlippedStreamsModel_address_36 rfl (lv_at hl 0 rfl) ?_
          refine mg_0_starved hx hb hts hin_SlippedStreamsModel hown hK hP (hts _ k_827) (fun _ h9 => h9) d_SlippedStreamsModel_address_37 ?_
          refine lv_if_eq (tgt := 52) hx hb d_SlippedStreamsModel_address_40 (by decide) (fun hc => ?_) (fun hc => ?_)
          · replace h := if_t hc h
            exact jp_52 z0 y1 y2 0 _ _ _ h hP hD hS (lv_sub hl [0, 1, 2] rfl)
          · replace h := if_f hc h
            refine lv_aload_n hx hb d_SlippedStreamsModel_address_43 rfl (lv_at hl 0 rfl) ?_
            refine mg_0_lost hx hb hts hin_SlippedStreamsModel hown hK hP (hts _ k_826) (fun _ h9 => h9) d_SlippedStreamsModel_address_44 ?_
            refine lv_iconst (v := 1) hx hb d_SlippedStreamsModel_address_47 (by decide) ?_
            refine lv_iadd hx hb d_SlippedStreamsModel_address_48 ?_
            refine lv_goto (tgt := 56) hx hb d_SlippedStreamsModel_address_49 (by decide) ?_
            exact jp_56 z0 y1 y2 ((z0.1 4) + 1) _ _ _ h hP hD hS (lv_sub hl [0, 1, 2] rfl)
      · intro z0 y1 y2 y3 H locs ls h hP hD hS hl
        replace h : m_address_g52 (m_address_f n) z0 y1 y2 y3 = some R := h
        unfold m_address_g52 at h
        refine lv_aload_n hx hb d_SlippedStreamsModel_address_52 rfl (lv_at hl 0 rfl) ?_
        refine mg_0_lost hx hb hts hin_SlippedStreamsModel hown hK hP (hts _ k_826) (fun _ h9 => h9) d_SlippedStreamsModel_address_53 ?_
        exact jp_56 z0 y1 y2 (z0.1 4) _ _ _ h hP hD hS (lv_sub hl [0, 1, 2] rfl)
      · intro z0 y1 y2 y3 H locs ls h hP hD hS hl
        replace h : m_address_g56 (m_address_f n) z0 y1 y2 y3 = some R := h
        unfold m_address_g56 at h
        obtain ⟨z3, e3, h⟩ := bnd_e h
        refine mp_0_lost hx hb hts hin_SlippedStreamsModel hown hK hP hD hS (hts _ k_826) (fun _ h9 => h9) d_SlippedStreamsModel_address_56 e3 (fun H locs hP hD hS => ?_)
        refine lv_iload_n hx hb d_SlippedStreamsModel_address_59 rfl (lv_at hl 2 rfl) ?_
        exact q_iret hx hb hr hlocks h hP hD hS d_SlippedStreamsModel_address_60
  exact (key 4000).1 z0 x1 0 0 _ _ _ h hP hD hS (lv_sub hl [0, 1] rfl)
def m_valueOf (z0 : ST) (x1 x2 : Int32) : OR := obn (m_reads z0 x1 x2) (fun r1 z1 => gin r1 8 (if (z1.2 4 r1.toNatClampNeg) = 0 then (gin (8 + r1) 16 (some (z1.2 5 (8 + r1).toNatClampNeg, z1))) else (obn (m_handed z1 x1 0) (fun r2 z2 => if r2 = r1 then (gin (24 + 0) 30 (some (z2.2 9 (24 + 0 : Int32).toNatClampNeg, z2))) else (gin (24 + 1) 30 (some (z2.2 9 (24 + 1 : Int32).toNatClampNeg, z2)))))))
set_option maxRecDepth 100000 in
set_option maxHeartbeats 4000000 in
theorem c_m_valueOf (l : Launch) (dC : Nat → ClassId) (dI : Nat → Nat → Nat) (cI cZ : ClassId) (ad : Nat → Nat) (z0 : ST) (x1 x2 : Int32) (R : Int32 × ST) (h : m_valueOf z0 x1 x2 = some R) : qMi l y_SlippedStreamsModel_valueOf w_SlippedStreamsModel_valueOf 3 69 (KX dC dI cI cZ) (dC, dI) q_cl (wM cI cZ ad) [.ref (ad 0), .int x1, .int x2] z0 R := by
  intro sz
  refine Met.ofW (cc := b_SlippedStreamsModel_valueOf) (maxL := 4) (ret := (some .int)) (by decide) rfl ?_
  intro p e s m args below meth c s₁ B hml hv
  obtain ⟨rfl, hsz, hP, hKK, hD0⟩ := hv
  have hx := B.exec
  have hb := B.bytes
  have hr := B.returns
  have hts : ∀ w ∈ q_big, w.before _ s = true := fun w h => atoms_spec (ws := w_SlippedStreamsModel_valueOf) B.pre w (List.mem_cons_of_mem _ h)
  have hown : s.vm.findClass "SlippedStreamsModel" = some m.cls := findClass_of_methodNamed B.named
  have hlocks := B.notSynchronized
  subst hsz
  have hD := hD0.self (sz := s.heap.size)
  generalize hAe : va_A (wM cI cZ ad z0) s.heap.size = A at hD ⊢
  have hA : ∀ q : Nat, s.heap.size ≤ q → A q := fun q h => by rw [← hAe]; exact Or.inr h
  have hS : va_S A s.heap s.heap [] := va_S.rf
  have hK := hKK.1
  have hl := lv_entry ([.ref (ad 0), .int x1, .int x2]) (n := 4) (Nat.le_of_ble_eq_true rfl)
  rw [lg_entry_eq]
  generalize (lg_sl ([.ref (ad 0), .int x1, .int x2]) ++ List.replicate (4 - (lg_sl ([.ref (ad 0), .int x1, .int x2])).length) Slot.unset).toArray = ls at hl ⊢
  have hl : lv_has ls 4 [(0, .ref (ad 0)), (1, .int x1), (2, .int x2)] := hl
  unfold m_valueOf at h
  refine lv_aload_n hx hb d_SlippedStreamsModel_valueOf_0 rfl (lv_at hl 0 rfl) ?_
  refine lv_iload_n hx hb d_SlippedStreamsModel_valueOf_1 rfl (lv_at hl 1 rfl) ?_
  refine lv_iload_n hx hb d_SlippedStreamsModel_valueOf_2 rfl (lv_at hl 2 rfl) ?_
  obtain ⟨r1, z1, hc1, h⟩ := obn_e h
  refine q_goi (va_runV (As := [.int x1, .int x2]) (rest := []) ⟨hx, hb, hml, hown, hts⟩ (c_m_reads l dC dI cI cZ ad z0 x1 x2 _ hc1 _) (cwV 2 hts (q_goodL _ (q_l4 k_937 k_939 k_34 k_64) k_940) rfl rfl rfl (by decide +kernel) ⟨Nat.le_of_ble_eq_true rfl, Nat.le_of_ble_eq_true rfl⟩) (q_preV qok hKK hP hD (va_recv (ci := 9) (q0 := 0) hK hP rfl rfl)) rfl rfl hl.1 rfl (lv_room (Nat.le_of_ble_eq_true rfl)) d_SlippedStreamsModel_valueOf_3 ⟨Nat.le_refl _, Nat.le_refl _⟩) hD hS hA (fun H locs hP hD hS => ?_)
  refine lv_istore_n (lv' := [(3, .int r1), (0, .ref (ad 0)), (1, .int x1), (2, .int x2)]) hx hb d_SlippedStreamsModel_valueOf_6 rfl hl (by decide) rfl (fun ls hl => ?_)
  refine lv_aload_n hx hb d_SlippedStreamsModel_valueOf_7 rfl (lv_at hl 1 rfl) ?_
  refine mg_0_isAddress hx hb hts hin_SlippedStreamsModel hown hK hP (hts _ k_820) (fun _ h9 => h9) d_SlippedStreamsModel_valueOf_8 ?_
  refine lv_iload_n hx hb d_SlippedStreamsModel_valueOf_11 rfl (lv_at hl 0 rfl) ?_
  obtain ⟨hi, h⟩ := gin_e h
  refine ml_4 hx hb hK hP hi d_SlippedStreamsModel_valueOf_12 ?_
  refine lv_if_ne (tgt := 26) hx hb d_SlippedStreamsModel_valueOf_13 (by decide) (fun hc => ?_) (fun hc => ?_)
  · replace h := if_f hc h
    refine lv_aload_n hx hb d_SlippedStreamsModel_valueOf_26 rfl (lv_at hl 1 rfl) ?_
    refine mg_0_queues hx hb hts hin_SlippedStreamsModel hown hK hP (hts _ k_828) (fun _ h9 => h9) d_SlippedStreamsModel_valueOf_27 ?_
    refine lv_bipush (v := 24) hx hb d_SlippedStreamsModel_valueOf_30 (by decide) ?_
    refine lv_aload_n hx hb d_SlippedStreamsModel_valueOf_32 rfl (lv_at hl 1 rfl) ?_
    refine lv_iload_n hx hb d_SlippedStreamsModel_valueOf_33 rfl (lv_at hl 2 rfl) ?_
    refine lv_iconst (v := 0) hx hb d_SlippedStreamsModel_valueOf_34 (by decide) ?_
    obtain ⟨r2, z2, hc2, h⟩ := obn_e h
    refine q_goi (va_runV (As := [.int x1, .int 0]) (rest := [.int 24, .ref (ad 10)]) ⟨hx, hb, hml, hown, hts⟩ (c_m_handed l dC dI cI cZ ad z1 x1 0 _ hc2 _) (cwV 2 hts (q_goodL _ (q_l4 k_933 k_935 k_33 k_64) k_936) rfl rfl rfl (by decide +kernel) ⟨Nat.le_of_ble_eq_true rfl, Nat.le_of_ble_eq_true rfl⟩) (q_preV qok hKK hP hD (va_recv (ci := 9) (q0 := 0) hK hP rfl rfl)) rfl rfl hl.1 rfl (lv_room (Nat.le_of_ble_eq_true rfl)) d_SlippedStreamsModel_valueOf_35 ⟨Nat.le_refl _, Nat.le_refl _⟩) hD hS hA (fun H locs hP hD hS => ?_)
    refine lv_iload_n hx hb d_SlippedStreamsModel_valueOf_38 rfl (lv_at hl 0 rfl) ?_
    refine lv_icmp_ne (tgt := 46) hx hb d_SlippedStreamsModel_valueOf_39 (by decide) (fun hc => ?_) (fun hc => ?_)
    · replace h := if_f hc h
      refine lv_iconst (v := 1) hx hb d_SlippedStreamsModel_valueOf_46 (by decide) ?_
      refine lv_iadd hx hb d_SlippedStreamsModel_valueOf_47 ?_
      obtain ⟨hi, h⟩ := gin_e h
      refine ml_9 hx hb hK hP hi d_SlippedStreamsModel_valueOf_48 ?_
      exact q_iret hx hb hr hlocks h hP hD hS d_SlippedStreamsModel_valueOf_49
    · replace h := if_t hc h
      refine lv_iconst (v := 0) hx hb d_SlippedStreamsModel_valueOf_42 (by decide) ?_
      refine lv_goto (tgt := 47) hx hb d_SlippedStreamsModel_valueOf_43 (by decide) ?_
      refine lv_iadd hx hb d_SlippedStreamsModel_valueOf_47 ?_
      obtain ⟨hi, h⟩ := gin_e h
      refine ml_9 hx hb hK hP hi d_SlippedStreamsModel_valueOf_48 ?_
      exact q_iret hx hb hr hlocks h hP hD hS d_SlippedStreamsModel_valueOf_49
  · replace h := if_t hc h
    refine lv_aload_n hx hb d_SlippedStreamsModel_valueOf_16 rfl (lv_at hl 1 rfl) ?_
    refine mg_0_registers hx hb hts hin_SlippedStreamsModel hown hK hP (hts _ k_821) (fun _ h9 => h9) d_SlippedStreamsModel_valueOf_17 ?_
    refine lv_bipush (v := 8) hx hb d_SlippedStreamsModel_valueOf_20 (by decide) ?_
    refine lv_iload_n hx hb d_SlippedStreamsModel_valueOf_22 rfl (lv_at hl 0 rfl) ?_
    refine lv_iadd hx hb d_SlippedStreamsModel_valueOf_23 ?_
    obtain ⟨hi, h⟩ := gin_e h
    refine ml_5 hx hb hK hP hi d_SlippedStreamsModel_valueOf_24 ?_
    exact q_iret hx hb hr hlocks h hP hD hS d_SlippedStreamsModel_valueOf_25
def m_write (z0 : ST) (x1 x2 x3 : Int32) : OR := if 64 ≤ x2 then (some (0, z0)) else (gin (x1 + x2) 128 (bnd (stA z0 16 (upd (z0.2 16) (x1 + x2).toNatClampNeg x3)) (fun z1 => some (0, z1))))
set_option maxRecDepth 100000 in
set_option maxHeartbeats 4000000 in
theorem c_m_write (l : Launch) (dC : Nat → ClassId) (dI : Nat → Nat → Nat) (cI cZ : ClassId) (ad : Nat → Nat) (z0 : ST) (x1 x2 x3 : Int32) (R : Int32 × ST) (h : m_write z0 x1 x2 x3 = some R) : qMv l y_SlippedStreamsModel_write w_SlippedStreamsModel_write 0 0 (KX dC dI cI cZ) (dC, dI) q_cl (wM cI cZ ad) [.ref (ad 0), .int x1, .int x2, .int x3] z0 R := by
  intro sz
  refine Met.ofW (cc := b_SlippedStreamsModel_write) (maxL := 4) (ret := none) (by decide) rfl ?_
  intro p e s m args below meth c s₁ B hml hv
  obtain ⟨rfl, hsz, hP, hKK, hD0⟩ := hv
  have hx := B.exec
  have hb := B.bytes
  have hr := B.returns
  have hts : ∀ w ∈ q_big, w.before _ s = true := fun w h => atoms_spec (ws := w_SlippedStreamsModel_write) B.pre w (List.mem_cons_of_mem _ h)
  have hown : s.vm.findClass "SlippedStreamsModel" = some m.cls := findClass_of_methodNamed B.named
  have hlocks := B.notSynchronized
  subst hsz
  have hD := hD0.self (sz := s.heap.size)
  generalize hAe : va_A (wM cI cZ ad z0) s.heap.size = A at hD ⊢
  have hA : ∀ q : Nat, s.heap.size ≤ q → A q := fun q h => by rw [← hAe]; exact Or.inr h
  have hS : va_S A s.heap s.heap [] := va_S.rf
  have hK := hKK.1
  have hl := lv_entry ([.ref (ad 0), .int x1, .int x2, .int x3]) (n := 4) (Nat.le_of_ble_eq_true rfl)
  rw [lg_entry_eq]
  generalize (lg_sl ([.ref (ad 0), .int x1, .int x2, .int x3]) ++ List.replicate (4 - (lg_sl ([.ref (ad 0), .int x1, .int x2, .int x3])).length) Slot.unset).toArray = ls at hl ⊢
  have hl : lv_has ls 4 [(0, .ref (ad 0)), (1, .int x1), (2, .int x2), (3, .int x3)] := hl
  unfold m_write at h
  refine lv_iload_n hx hb d_SlippedStreamsModel_write_0 rfl (lv_at hl 2 rfl) ?_
  refine lv_bipush (v := 64) hx hb d_SlippedStreamsModel_write_1 (by decide) ?_
  refine lv_icmp_ge (tgt := 15) hx hb d_SlippedStreamsModel_write_3 (by decide) (fun hc => ?_) (fun hc => ?_)
  · replace h := if_t hc h
    exact q_vret hx hb hr hlocks h hP hD hS d_SlippedStreamsModel_write_15
  · replace h := if_f hc h
    refine lv_aload_n hx hb d_SlippedStreamsModel_write_6 rfl (lv_at hl 0 rfl) ?_
    refine mg_0_written hx hb hts hin_SlippedStreamsModel hown hK hP (hts _ k_837) (fun _ h9 => h9) d_SlippedStreamsModel_write_7 ?_
    refine lv_iload_n hx hb d_SlippedStreamsModel_write_10 rfl (lv_at hl 1 rfl) ?_
    refine lv_iload_n hx hb d_SlippedStreamsModel_write_11 rfl (lv_at hl 2 rfl) ?_
    refine lv_iadd hx hb d_SlippedStreamsModel_write_12 ?_
    refine lv_iload_n hx hb d_SlippedStreamsModel_write_13 rfl (lv_at hl 3 rfl) ?_
    obtain ⟨hi, h⟩ := gin_e h
    obtain ⟨z1, e1, h⟩ := bnd_e h
    refine ms_16 hx hb hK hP hD hS hi d_SlippedStreamsModel_write_14 e1 (fun H locs hP hD hS => ?_)
    exact q_vret hx hb hr hlocks h hP hD hS d_SlippedStreamsModel_write_15
def m_work_g0 (k : Nat → ST → Int32 → Int32 → Int32 → Int32 → Int32 → Int32 → Int32 → Int32 → OR) (z0 : ST) (y1 y2 y3 y4 y5 y6 y7 y8 : Int32) : OR := gin y1 24 (obn (m_howMany z0 y1) (fun r1 z1 => gin 4 5 (if (z1.2 10 (4 : Int32).toNatClampNeg) < r1 then (gib 0 (some (0, z1))) else (obn (m_isBranch z1 y1) (fun r2 z2 => if r2 = 0 then (k 1 z2 y1 (z0.2 0 y1.toNatClampNeg) r1 0 0 0 0 0) else (obn (m_hasRoom z2 3 1) (fun r3 z3 => if r3 = 0 then (gib 0 (some (0, z3))) else (k 1 z3 y1 (z0.2 0 y1.toNatClampNeg) r1 0 0 0 0 0))))))))
def m_work_g42 (k : Nat → ST → Int32 → Int32 → Int32 → Int32 → Int32 → Int32 → Int32 → Int32 → OR) (z0 : ST) (y1 y2 y3 y4 y5 y6 y7 y8 : Int32) : OR := obn (m_reads z0 y1 0) (fun r4 z4 => if 0 ≤ r4 then (obn (m_valueOf z4 y1 0) (fun r5 z5 => k 2 z5 y1 y2 y3 r5 0 0 0 0)) else (k 2 z4 y1 y2 y3 0 0 0 0 0))
def m_work_g61 (k : Nat → ST → Int32 → Int32 → Int32 → Int32 → Int32 → Int32 → Int32 → Int32 → OR) (z0 : ST) (y1 y2 y3 y4 y5 y6 y7 y8 : Int32) : OR := obn (m_reads z0 y1 1) (fun r6 z6 => if 0 ≤ r6 then (obn (m_valueOf z6 y1 1) (fun r7 z7 => k 3 z7 y1 y2 y3 y4 r7 0 0 0)) else (k 3 z6 y1 y2 y3 y4 0 0 0 0))
def m_work_g82 (k : Nat → ST → Int32 → Int32 → Int32 → Int32 → Int32 → Int32 → Int32 → Int32 → OR) (z0 : ST) (y1 y2 y3 y4 y5 y6 y7 y8 : Int32) : OR := k 4 z0 y1 y2 y3 y4 y5 0 0 0
def m_work_g87 (k : Nat → ST → Int32 → Int32 → Int32 → Int32 → Int32 → Int32 → Int32 → Int32 → OR) (z0 : ST) (y1 y2 y3 y4 y5 y6 y7 y8 : Int32) : OR := if y3 ≤ y6 then (obn (m_isBranch z0 y1) (fun r8 z8 => if r8 = 0 then (k 5 z8 y1 y2 y3 y4 y5 y6 0 0) else (obn (m_holds z8 y2 y4 y5) (fun r9 z9 => if r9 = 0 then (k 5 z9 y1 y2 y3 y4 y5 y6 0 0) else (k 6 z9 y1 y2 y3 y4 y5 y6 1 0))))) else (obn (m_take z0 4) (fun r10 z10 => k 4 z10 y1 y2 y3 y4 y5 (y6 + 1) 0 0))
def m_work_g128 (k : Nat → ST → Int32 → Int32 → Int32 → Int32 → Int32 → Int32 → Int32 → Int32 → OR) (z0 : ST) (y1 y2 y3 y4 y5 y6 y7 y8 : Int32) : OR := k 6 z0 y1 y2 y3 y4 y5 y6 0 0
def m_work_g129 (k : Nat → ST → Int32 → Int32 → Int32 → Int32 → Int32 → Int32 → Int32 → Int32 → OR) (z0 : ST) (y1 y2 y3 y4 y5 y6 y7 y8 : Int32) : OR := obn (m_isBranch z0 y1) (fun r11 z11 => if r11 = 0 then (if y2 = 8 then (obn (m_write z11 0 (z11.1 8) y4) (fun r13 z13 => bnd (stI z13 8 ((z13.1 8) + 1)) (fun z14 => k 9 z14 y1 y2 y3 y4 y5 y7 0 0))) else (gin y1 24 (if y2 = 0 then (gin y1 24 (k 8 z11 y1 y2 y3 y4 y5 y7 (8 + (z11.2 1 y1.toNatClampNeg)) (z11.2 3 y1.toNatClampNeg))) else (obn (m_reckon z11 y2 y4 y5) (fun r12 z12 => k 8 z12 y1 y2 y3 y4 y5 y7 (8 + (z11.2 1 y1.toNatClampNeg)) r12))))) else (if y7 = 0 then (k 7 z11 y1 y2 y3 y4 y5 y7 3 0) else (k 7 z11 y1 y2 y3 y4 y5 y7 3 1)))
def m_work_g151 (k : Nat → ST → Int32 → Int32 → Int32 → Int32 → Int32 → Int32 → Int32 → Int32 → OR) (z0 : ST) (y1 y2 y3 y4 y5 y6 y7 y8 : Int32) : OR := obn (m_put z0 y7 y8) (fun r15 z15 => k 9 z15 y1 y2 y3 y4 y5 y6 0 0)
def m_work_g221 (k : Nat → ST → Int32 → Int32 → Int32 → Int32 → Int32 → Int32 → Int32 → Int32 → OR) (z0 : ST) (y1 y2 y3 y4 y5 y6 y7 y8 : Int32) : OR := gin y7 16 (bnd (stA z0 5 (upd (z0.2 5) y7.toNatClampNeg y8)) (fun z16 => k 9 z16 y1 y2 y3 y4 y5 y6 0 0))
def m_work_g222 (k : Nat → ST → Int32 → Int32 → Int32 → Int32 → Int32 → Int32 → Int32 → Int32 → OR) (z0 : ST) (y1 y2 y3 y4 y5 y6 y7 y8 : Int32) : OR := if y6 = 0 then (k 10 z0 y1 y2 y3 y4 y5 y6 1 (y1 + 1)) else (gin y1 24 (k 10 z0 y1 y2 y3 y4 y5 y6 1 (z0.2 3 y1.toNatClampNeg)))
def m_work_g241 (k : Nat → ST → Int32 → Int32 → Int32 → Int32 → Int32 → Int32 → Int32 → Int32 → OR) (z0 : ST) (y1 y2 y3 y4 y5 y6 y7 y8 : Int32) : OR := obn (m_leave z0 y7 y8) (fun r17 z17 => gib 1 (some (1, z17)))
def m_work_g (k : Nat → ST → Int32 → Int32 → Int32 → Int32 → Int32 → Int32 → Int32 → Int32 → OR) (n : Nat) : ST → Int32 → Int32 → Int32 → Int32 → Int32 → Int32 → Int32 → Int32 → OR := match n with
  | 0 => m_work_g0 k
  | 1 => m_work_g42 k
  | 2 => m_work_g61 k
  | 3 => m_work_g82 k
  | 4 => m_work_g87 k
  | 5 => m_work_g128 k
  | 6 => m_work_g129 k
  | 7 => m_work_g151 k
  | 8 => m_work_g221 k
  | 9 => m_work_g222 k
  | 10 => m_work_g241 k
  | _ => fun _ _ _ _ _ _ _ _ _ => none
def m_work_f : Nat → Nat → ST → Int32 → Int32 → Int32 → Int32 → Int32 → Int32 → Int32 → Int32 → OR
  | 0 => fun _ _ _ _ _ _ _ _ _ _ => none
  | n + 1 => m_work_g (m_work_f n)
def m_work (z0 : ST) (x1 : Int32) : OR := m_work_f 4000 0 z0 x1 0 0 0 0 0 0 0
set_option maxRecDepth 100000 in
set_option maxHeartbeats 4000000 in
theorem c_m_work (l : Launch) (dC : Nat → ClassId) (dI : Nat → Nat → Nat) (cI cZ : ClassId) (ad : Nat → Nat) (z0 : ST) (x1 : Int32) (R : Int32 × ST) (h : m_work z0 x1 = some R) : qMi l y_SlippedStreamsModel_work w_SlippedStreamsModel_work 7 156 (KX dC dI cI cZ) (dC, dI) q_cl (wM cI cZ ad) [.ref (ad 0), .int x1] z0 R := by
  intro sz
  refine Met.ofW (cc := b_SlippedStreamsModel_work) (maxL := 7) (ret := (some .boolean)) (by decide) rfl ?_
  intro p e s m args below meth c s₁ B hml hv
  obtain ⟨rfl, hsz, hP, hKK, hD0⟩ := hv
  have hx := B.exec
  have hb := B.bytes
  have hr := B.returns
  have hts : ∀ w ∈ q_big, w.before _ s = true := fun w h => atoms_spec (ws := w_SlippedStreamsModel_work) B.pre w (List.mem_cons_of_mem _ h)
  have hown : s.vm.findClass "SlippedStreamsModel" = some m.cls := findClass_of_methodNamed B.named
  have hlocks := B.notSynchronized
  subst hsz
  have hD := hD0.self (sz := s.heap.size)
  generalize hAe : va_A (wM cI cZ ad z0) s.heap.size = A at hD ⊢
  have hA : ∀ q : Nat, s.heap.size ≤ q → A q := fun q h => by rw [← hAe]; exact Or.inr h
  have hS : va_S A s.heap s.heap [] := va_S.rf
  have hK := hKK.1
  have hl := lv_entry ([.ref (ad 0), .int x1]) (n := 7) (Nat.le_of_ble_eq_true rfl)
  rw [lg_entry_eq]
  generalize (lg_sl ([.ref (ad 0), .int x1]) ++ List.replicate (7 - (lg_sl ([.ref (ad 0), .int x1])).length) Slot.unset).toArray = ls at hl ⊢
  have hl : lv_has ls 7 [(0, .ref (ad 0)), (1, .int x1)] := hl
  have key : ∀ n : Nat, (∀ (z0 : ST) (y1 y2 y3 y4 y5 y6 y7 y8 : Int32) (H : Heap) (locs : List Loc) (ls : Array Slot), m_work_f n 0 z0 y1 y2 y3 y4 y5 y6 y7 y8 = some R → va_P (dC, dI) q_cl (wM cI cZ ad z0) H → va_D A (wM cI cZ ad z0) → va_S A s.heap H locs → lv_has ls 7 [(0, .ref (ad 0)), (1, .int y1)] → qWi p l e w_SlippedStreamsModel_work 7 156 s m [.ref (ad 0), .int x1] below meth c (dC, dI) q_cl (wM cI cZ ad) A R H locs (F0 m 0 ls [])) ∧ (∀ (z0 : ST) (y1 y2 y3 y4 y5 y6 y7 y8 : Int32) (H : Heap) (locs : List Loc) (ls : Array Slot), m_work_f n 1 z0 y1 y2 y3 y4 y5 y6 y7 y8 = some R → va_P (dC, dI) q_cl (wM cI cZ ad z0) H → va_D A (wM cI cZ ad z0) → va_S A s.heap H locs → lv_has ls 7 [(0, .ref (ad 0)), (1, .int y1), (2, .int y2), (3, .int y3)] → qWi p l e w_SlippedStreamsModel_work 7 156 s m [.ref (ad 0), .int x1] below meth c (dC, dI) q_cl (wM cI cZ ad) A R H locs (F0 m 42 ls [])) ∧ (∀ (z0 : ST) (y1 y2 y3 y4 y5 y6 y7 y8 : Int32) (H : Heap) (locs : List Loc) (ls : Array Slot), m_work_f n 2 z0 y1 y2 y3 y4 y5 y6 y7 y8 = some R → va_P (dC, dI) q_cl (wM cI cZ ad z0) H → va_D A (wM cI cZ ad z0) → va_S A s.heap H locs → lv_has ls 7 [(0, .ref (ad 0)), (1, .int y1), (2, .int y2), (3, .int y3)] → qWi p l e w_SlippedStreamsModel_work 7 156 s m [.ref (ad 0), .int x1] below meth c (dC, dI) q_cl (wM cI cZ ad) A R H locs (F0 m 61 ls [.int y4])) ∧ (∀ (z0 : ST) (y1 y2 y3 y4 y5 y6 y7 y8 : Int32) (H : Heap) (locs : List Loc) (ls : Array Slot), m_work_f n 3 z0 y1 y2 y3 y4 y5 y6 y7 y8 = some R → va_P (dC, dI) q_cl (wM cI cZ ad z0) H → va_D A (wM cI cZ ad z0) → va_S A s.heap H locs → lv_has ls 7 [(0, .ref (ad 0)), (1, .int y1), (2, .int y2), (3, .int y3), (4, .int y4)] → qWi p l e w_SlippedStreamsModel_work 7 156 s m [.ref (ad 0), .int x1] below meth c (dC, dI) q_cl (wM cI cZ ad) A R H locs (F0 m 82 ls [.int y5])) ∧ (∀ (z0 : ST) (y1 y2 y3 y4 y5 y6 y7 y8 : Int32) (H : Heap) (locs : List Loc) (ls : Array Slot), m_work_f n 4 z0 y1 y2 y3 y4 y5 y6 y7 y8 = some R → va_P (dC, dI) q_cl (wM cI cZ ad z0) H → va_D A (wM cI cZ ad z0) → va_S A s.heap H locs → lv_has ls 7 [(0, .ref (ad 0)), (1, .int y1), (2, .int y2), (3, .int y3), (4, .int y4), (5, .int y5), (6, .int y6)] → qWi p l e w_SlippedStreamsModel_work 7 156 s m [.ref (ad 0), .int x1] below meth c (dC, dI) q_cl (wM cI cZ ad) A R H locs (F0 m 87 ls [])) ∧ (∀ (z0 : ST) (y1 y2 y3 y4 y5 y6 y7 y8 : Int32) (H : Heap) (locs : List Loc) (ls : Array Slot), m_work_f n 5 z0 y1 y2 y3 y4 y5 y6 y7 y8 = some R → va_P (dC, dI) q_cl (wM cI cZ ad z0) H → va_D A (wM cI cZ ad z0) → va_S A s.heap H locs → lv_has ls 7 [(0, .ref (ad 0)), (1, .int y1), (2, .int y2), (3, .int y3), (4, .int y4), (5, .int y5), (6, .int y6)] → qWi p l e w_SlippedStreamsModel_work 7 156 s m [.ref (ad 0), .int x1] below meth c (dC, dI) q_cl (wM cI cZ ad) A R H locs (F0 m 128 ls [])) ∧ (∀ (z0 : ST) (y1 y2 y3 y4 y5 y6 y7 y8 : Int32) (H : Heap) (locs : List Loc) (ls : Array Slot), m_work_f n 6 z0 y1 y2 y3 y4 y5 y6 y7 y8 = some R → va_P (dC, dI) q_cl (wM cI cZ ad z0) H → va_D A (wM cI cZ ad z0) → va_S A s.heap H locs → lv_has ls 7 [(0, .ref (ad 0)), (1, .int y1), (2, .int y2), (3, .int y3), (4, .int y4), (5, .int y5), (6, .int y6)] → qWi p l e w_SlippedStreamsModel_work 7 156 s m [.ref (ad 0), .int x1] below meth c (dC, dI) q_cl (wM cI cZ ad) A R H locs (F0 m 129 ls [.int y7])) ∧ (∀ (z0 : ST) (y1 y2 y3 y4 y5 y6 y7 y8 : Int32) (H : Heap) (locs : List Loc) (ls : Array Slot), m_work_f n 7 z0 y1 y2 y3 y4 y5 y6 y7 y8 = some R → va_P (dC, dI) q_cl (wM cI cZ ad z0) H → va_D A (wM cI cZ ad z0) → va_S A s.heap H locs → lv_has ls 7 [(0, .ref (ad 0)), (1, .int y1), (2, .int y2), (3, .int y3), (4, .int y4), (5, .int y5), (6, .int y6)] → qWi p l e w_SlippedStreamsModel_work 7 156 s m [.ref (ad 0), .int x1] below meth c (dC, dI) q_cl (wM cI cZ ad) A R H locs (F0 m 151 ls [.int y8, .int y7, .ref (ad 0)])) ∧ (∀ (z0 : ST) (y1 y2 y3 y4 y5 y6 y7 y8 : Int32) (H : Heap) (locs : List Loc) (ls : Array Slot), m_work_f n 8 z0 y1 y2 y3 y4 y5 y6 y7 y8 = some R → va_P (dC, dI) q_cl (wM cI cZ ad z0) H → va_D A (wM cI cZ ad z0) → va_S A s.heap H locs → lv_has ls 7 [(0, .ref (ad 0)), (1, .int y1), (2, .int y2), (3, .int y3), (4, .int y4), (5, .int y5), (6, .int y6)] → qWi p l e w_SlippedStreamsModel_work 7 156 s m [.ref (ad 0), .int x1] below meth c (dC, dI) q_cl (wM cI cZ ad) A R H locs (F0 m 221 ls [.int y8, .int y7, .ref (ad 6)])) ∧ (∀ (z0 : ST) (y1 y2 y3 y4 y5 y6 y7 y8 : Int32) (H : Heap) (locs : List Loc) (ls : Array Slot), m_work_f n 9 z0 y1 y2 y3 y4 y5 y6 y7 y8 = some R → va_P (dC, dI) q_cl (wM cI cZ ad z0) H → va_D A (wM cI cZ ad z0) → va_S A s.heap H locs → lv_has ls 7 [(0, .ref (ad 0)), (1, .int y1), (2, .int y2), (3, .int y3), (4, .int y4), (5, .int y5), (6, .int y6)] → qWi p l e w_SlippedStreamsModel_work 7 156 s m [.ref (ad 0), .int x1] below meth c (dC, dI) q_cl (wM cI cZ ad) A R H locs (F0 m 222 ls [])) ∧ (∀ (z0 : ST) (y1 y2 y3 y4 y5 y6 y7 y8 : Int32) (H : Heap) (locs : List Loc) (ls : Array Slot), m_work_f n 10 z0 y1 y2 y3 y4 y5 y6 y7 y8 = some R → va_P (dC, dI) q_cl (wM cI cZ ad z0) H → va_D A (wM cI cZ ad z0) → va_S A s.heap H locs → lv_has ls 7 [(0, .ref (ad 0)), (1, .int y1), (2, .int y2), (3, .int y3), (4, .int y4), (5, .int y5), (6, .int y6)] → qWi p l e w_SlippedStreamsModel_work 7 156 s m [.ref (ad 0), .int x1] below meth c (dC, dI) q_cl (wM cI cZ ad) A R H locs (F0 m 241 ls [.int y8, .int y7, .ref (ad 0)])) := by
    intro n
    induction n with
    | zero => exact ⟨fun z0 y1 y2 y3 y4 y5 y6 y7 y8 H locs ls h hP hD hS hl => (by cases h), fun z0 y1 y2 y3 y4 y5 y6 y7 y8 H locs ls h hP hD hS hl => (by cases h), fun z0 y1 y2 y3 y4 y5 y6 y7 y8 H locs ls h hP hD hS hl => (by cases h), fun z0 y1 y2 y3 y4 y5 y6 y7 y8 H locs ls h hP hD hS hl => (by cases h), fun z0 y1 y2 y3 y4 y5 y6 y7 y8 H locs ls h hP hD hS hl => (by cases h), fun z0 y1 y2 y3 y4 y5 y6 y7 y8 H locs ls h hP hD hS hl => (by cases h), fun z0 y1 y2 y3 y4 y5 y6 y7 y8 H locs ls h hP hD hS hl => (by cases h), fun z0 y1 y2 y3 y4 y5 y6 y7 y8 H locs ls h hP hD hS hl => (by cases h), fun z0 y1 y2 y3 y4 y5 y6 y7 y8 H locs ls h hP hD hS hl => (by cases h), fun z0 y1 y2 y3 y4 y5 y6 y7 y8 H locs ls h hP hD hS hl => (by cases h), fun z0 y1 y2 y3 y4 y5 y6 y7 y8 H locs ls h hP hD hS hl => (by cases h)⟩
    | succ n ih =>
      obtain ⟨jp_0, jp_42, jp_61, jp_82, jp_87, jp_128, jp_129, jp_151, jp_221, jp_222, jp_241⟩ := ih
      refine ⟨?_, ?_, ?_, ?_, ?_, ?_, ?_, ?_, ?_, ?_, ?_⟩
      · intro z0 y1 y2 y3 y4 y5 y6 y7 y8 H locs ls h hP hD hS hl
        replace h : m_work_g0 (m_work_f n) z0 y1 y2 y3 y4 y5 y6 y7 y8 = some R := h
        unfold m_work_g0 at h
        refine lv_aload_n hx hb d_SlippedStreamsModel_work_0 rfl (lv_at hl 0 rfl) ?_
        refine mg_0_kinds hx hb hts hin_SlippedStreamsModel hown hK hP (hts _ k_814) (fun _ h9 => h9) d_SlippedStreamsModel_work_1 ?_
        refine lv_iload_n hx hb d_SlippedStreamsModel_work_4 rfl (lv_at hl 1 rfl) ?_
        obtain ⟨hi, h⟩ := gin_e h
        refine ml_0 hx hb hK hP hi d_SlippedStreamsModel_work_5 ?_
        refine lv_istore_n (lv' := [(2, .int (z0.2 0 y1.toNatClampNeg)), (0, .ref (ad 0)), (1, .int y1)]) hx hb d_SlippedStreamsModel_work_6 rfl hl (by decide) rfl (fun ls hl => ?_)
        refine lv_aload_n hx hb d_SlippedStreamsModel_work_7 rfl (lv_at hl 1 rfl) ?_
        refine lv_iload_n hx hb d_SlippedStreamsModel_work_8 rfl (lv_at hl 2 rfl) ?_
        obtain ⟨r1, z1, hc1, h⟩ := obn_e h
        refine q_goi (va_runV (As := [.int y1]) (rest := []) ⟨hx, hb, hml, hown, hts⟩ (c_m_howMany l dC dI cI cZ ad z0 y1 _ hc1 _) (cwV 1 hts (q_goodL _ (q_l4 k_929 k_931 k_32 k_64) k_932) rfl rfl rfl (by decide +kernel) ⟨Nat.le_of_ble_eq_true rfl, Nat.le_of_ble_eq_true rfl⟩) (q_preV qok hKK hP hD (va_recv (ci := 9) (q0 := 0) hK hP rfl rfl)) rfl rfl hl.1 rfl (lv_room (Nat.le_of_ble_eq_true rfl)) d_SlippedStreamsModel_work_9 ⟨Nat.le_refl _, Nat.le_refl _⟩) hD hS hA (fun H locs hP hD hS => ?_)
        refine lv_istore_n (lv' := [(3, .int r1), (2, .int (z0.2 0 y1.toNatClampNeg)), (0, .ref (ad 0)), (1, .int y1)]) hx hb d_SlippedStreamsModel_work_12 rfl hl (by decide) rfl (fun ls hl => ?_)
        refine lv_aload_n hx hb d_SlippedStreamsModel_work_13 rfl (lv_at hl 2 rfl) ?_
        refine mg_0_lengths hx hb hts hin_SlippedStreamsModel hown hK hP (hts _ k_829) (fun _ h9 => h9) d_SlippedStreamsModel_work_14 ?_
        refine lv_iconst (v := 4) hx hb d_SlippedStreamsModel_work_17 (by decide) ?_
        obtain ⟨hi, h⟩ := gin_e h
        refine ml_10 hx hb hK hP hi d_SlippedStreamsModel_work_18 ?_
        refine lv_iload_n hx hb d_SlippedStreamsModel_work_19 rfl (lv_at hl 0 rfl) ?_
        refine lv_icmp_lt (tgt := 40) hx hb d_SlippedStreamsModel_work_20 (by decide) (fun hc => ?_) (fun hc => ?_)
        · replace h := if_t hc h
          refine lv_iconst (v := 0) hx hb d_SlippedStreamsModel_work_40 (by decide) ?_
          exact q_zret hx hb hr hlocks h hP hD hS d_SlippedStreamsModel_work_41
        · replace h := if_f hc h
          refine lv_aload_n hx hb d_SlippedStreamsModel_work_23 rfl (lv_at hl 2 rfl) ?_
          refine lv_iload_n hx hb d_SlippedStreamsModel_work_24 rfl (lv_at hl 3 rfl) ?_
          obtain ⟨r2, z2, hc2, h⟩ := obn_e h
          refine q_goi (va_runV (As := [.int y1]) (rest := []) ⟨hx, hb, hml, hown, hts⟩ (c_m_isBranch l dC dI cI cZ ad z1 y1 _ hc2 _) (cwV 1 hts (q_goodL _ (q_l4 k_921 k_923 k_30 k_64) k_924) rfl rfl rfl (by decide +kernel) ⟨Nat.le_of_ble_eq_true rfl, Nat.le_of_ble_eq_true rfl⟩) (q_preV qok hKK hP hD (va_recv (ci := 9) (q0 := 0) hK hP rfl rfl)) rfl rfl hl.1 rfl (lv_room (Nat.le_of_ble_eq_true rfl)) d_SlippedStreamsModel_work_25 ⟨Nat.le_refl _, Nat.le_refl _⟩) hD hS hA (fun H locs hP hD hS => ?_)
          refine lv_if_eq (tgt := 42) hx hb d_SlippedStreamsModel_work_28 (by decide) (fun hc => ?_) (fun hc => ?_)
          · replace h := if_t hc h
            exact jp_42 z2 y1 (z0.2 0 y1.toNatClampNeg) r1 0 0 0 0 0 _ _ _ h hP hD hS (lv_sub hl [2, 3, 1, 0] rfl)
          · replace h := if_f hc h
            refine lv_aload_n hx hb d_SlippedStreamsModel_work_31 rfl (lv_at hl 2 rfl) ?_
            refine lv_iconst (v := 3) hx hb d_SlippedStreamsModel_work_32 (by decide) ?_
            refine lv_iconst (v := 1) hx hb d_SlippedStreamsModel_work_33 (by decide) ?_
            obtain ⟨r3, z3, hc3, h⟩ := obn_e h
            refine q_goi (va_runV (As := [.int 3, .int 1]) (rest := []) ⟨hx, hb, hml, hown, hts⟩ (c_m_hasRoom l dC dI cI cZ ad z2 3 1 _ hc3 _) (cwV 2 hts (q_goodL _ (q_l4 k_969 k_971 k_38 k_64) k_972) rfl rfl rfl (by decide +kernel) ⟨Nat.le_of_ble_eq_true rfl, Nat.le_of_ble_eq_true rfl⟩) (q_preV qok hKK hP hD (va_recv (ci := 9) (q0 := 0) hK hP rfl rfl)) rfl rfl hl.1 rfl (lv_room (Nat.le_of_ble_eq_true rfl)) d_SlippedStreamsModel_work_34 ⟨Nat.le_refl _, Nat.le_refl _⟩) hD hS hA (fun H locs hP hD hS => ?_)
            refine lv_if_ne (tgt := 42) hx hb d_SlippedStreamsModel_work_37 (by decide) (fun hc => ?_) (fun hc => ?_)
            · replace h := if_f hc h
              exact jp_42 z3 y1 (z0.2 0 y1.toNatClampNeg) r1 0 0 0 0 0 _ _ _ h hP hD hS (lv_sub hl [2, 3, 1, 0] rfl)
            · replace h := if_t hc h
              refine lv_iconst (v := 0) hx hb d_SlippedStreamsModel_work_40 (by decide) ?_
              exact q_zret hx hb hr hlocks h hP hD hS d_SlippedStreamsModel_work_41
      · intro z0 y1 y2 y3 y4 y5 y6 y7 y8 H locs ls h hP hD hS hl
        replace h : m_work_g42 (m_work_f n) z0 y1 y2 y3 y4 y5 y6 y7 y8 = some R := h
        unfold m_work_g42 at h
        refine lv_aload_n hx hb d_SlippedStreamsModel_work_42 rfl (lv_at hl 0 rfl) ?_
        refine lv_iload_n hx hb d_SlippedStreamsModel_work_43 rfl (lv_at hl 1 rfl) ?_
        refine lv_iconst (v := 0) hx hb d_SlippedStreamsModel_work_44 (by decide) ?_
        obtain ⟨r4, z4, hc4, h⟩ := obn_e h
        refine q_goi (va_runV (As := [.int y1, .int 0]) (rest := []) ⟨hx, hb, hml, hown, hts⟩ (c_m_reads l dC dI cI cZ ad z0 y1 0 _ hc4 _) (cwV 2 hts (q_goodL _ (q_l4 k_937 k_939 k_34 k_64) k_940) rfl rfl rfl (by decide +kernel) ⟨Nat.le_of_ble_eq_true rfl, Nat.le_of_ble_eq_true rfl⟩) (q_preV qok hKK hP hD (va_recv (ci := 9) (q0 := 0) hK hP rfl rfl)) rfl rfl hl.1 rfl (lv_room (Nat.le_of_ble_eq_true rfl)) d_SlippedStreamsModel_work_45 ⟨Nat.le_refl _, Nat.le_refl _⟩) hD hS hA (fun H locs hP hD hS => ?_)
        refine lv_if_ge (tgt := 55) hx hb d_SlippedStreamsModel_work_48 (by decide) (fun hc => ?_) (fun hc => ?_)
        · replace h := if_t hc h
          refine lv_aload_n hx hb d_SlippedStreamsModel_work_55 rfl (lv_at hl 0 rfl) ?_
          refine lv_iload_n hx hb d_SlippedStreamsModel_work_56 rfl (lv_at hl 1 rfl) ?_
          refine lv_iconst (v := 0) hx hb d_SlippedStreamsModel_work_57 (by decide) ?_
          obtain ⟨r5, z5, hc5, h⟩ := obn_e h
          refine q_goi (va_runV (As := [.int y1, .int 0]) (rest := []) ⟨hx, hb, hml, hown, hts⟩ (c_m_valueOf l dC dI cI cZ ad z4 y1 0 _ hc5 _) (cwV 2 hts (q_goodL _ (q_l4 k_1023 k_1025 k_49 k_64) k_1026) rfl rfl rfl (by decide +kernel) ⟨Nat.le_of_ble_eq_true rfl, Nat.le_of_ble_eq_true rfl⟩) (q_preV qok hKK hP hD (va_recv (ci := 9) (q0 := 0) hK hP rfl rfl)) rfl rfl hl.1 rfl (lv_room (Nat.le_of_ble_eq_true rfl)) d_SlippedStreamsModel_work_58 ⟨Nat.le_refl _, Nat.le_refl _⟩) hD hS hA (fun H locs hP hD hS => ?_)
          exact jp_61 z5 y1 y2 y3 r5 0 0 0 0 _ _ _ h hP hD hS (lv_sub hl [0, 1, 2, 3] rfl)
        · replace h := if_f hc h
          refine lv_iconst (v := 0) hx hb d_SlippedStreamsModel_work_51 (by decide) ?_
          refine lv_goto (tgt := 61) hx hb d_SlippedStreamsModel_work_52 (by decide) ?_
          exact jp_61 z4 y1 y2 y3 0 0 0 0 0 _ _ _ h hP hD hS (lv_sub hl [0, 1, 2, 3] rfl)
      · intro z0 y1 y2 y3 y4 y5 y6 y7 y8 H locs ls h hP hD hS hl
        replace h : m_work_g61 (m_work_f n) z0 y1 y2 y3 y4 y5 y6 y7 y8 = some R := h
        unfold m_work_g61 at h
        refine lv_istore (lv' := [(4, .int y4), (0, .ref (ad 0)), (1, .int y1), (2, .int y2), (3, .int y3)]) hx hb d_SlippedStreamsModel_work_61 hl (by decide) rfl (fun ls hl => ?_)
        refine lv_aload_n hx hb d_SlippedStreamsModel_work_63 rfl (lv_at hl 1 rfl) ?_
        refine lv_iload_n hx hb d_SlippedStreamsModel_work_64 rfl (lv_at hl 2 rfl) ?_
        refine lv_iconst (v := 1) hx hb d_SlippedStreamsModel_work_65 (by decide) ?_
        obtain ⟨r6, z6, hc6, h⟩ := obn_e h
        refine q_goi (va_runV (As := [.int y1, .int 1]) (rest := []) ⟨hx, hb, hml, hown, hts⟩ (c_m_reads l dC dI cI cZ ad z0 y1 1 _ hc6 _) (cwV 2 hts (q_goodL _ (q_l4 k_937 k_939 k_34 k_64) k_940) rfl rfl rfl (by decide +kernel) ⟨Nat.le_of_ble_eq_true rfl, Nat.le_of_ble_eq_true rfl⟩) (q_preV qok hKK hP hD (va_recv (ci := 9) (q0 := 0) hK hP rfl rfl)) rfl rfl hl.1 rfl (lv_room (Nat.le_of_ble_eq_true rfl)) d_SlippedStreamsModel_work_66 ⟨Nat.le_refl _, Nat.le_refl _⟩) hD hS hA (fun H locs hP hD hS => ?_)
        refine lv_if_ge (tgt := 76) hx hb d_SlippedStreamsModel_work_69 (by decide) (fun hc => ?_) (fun hc => ?_)
        · replace h := if_t hc h
          refine lv_aload_n hx hb d_SlippedStreamsModel_work_76 rfl (lv_at hl 1 rfl) ?_
          refine lv_iload_n hx hb d_SlippedStreamsModel_work_77 rfl (lv_at hl 2 rfl) ?_
          refine lv_iconst (v := 1) hx hb d_SlippedStreamsModel_work_78 (by decide) ?_
          obtain ⟨r7, z7, hc7, h⟩ := obn_e h
          refine q_goi (va_runV (As := [.int y1, .int 1]) (rest := []) ⟨hx, hb, hml, hown, hts⟩ (c_m_valueOf l dC dI cI cZ ad z6 y1 1 _ hc7 _) (cwV 2 hts (q_goodL _ (q_l4 k_1023 k_1025 k_49 k_64) k_1026) rfl rfl rfl (by decide +kernel) ⟨Nat.le_of_ble_eq_true rfl, Nat.le_of_ble_eq_true rfl⟩) (q_preV qok hKK hP hD (va_recv (ci := 9) (q0 := 0) hK hP rfl rfl)) rfl rfl hl.1 rfl (lv_room (Nat.le_of_ble_eq_true rfl)) d_SlippedStreamsModel_work_79 ⟨Nat.le_refl _, Nat.le_refl _⟩) hD hS hA (fun H locs hP hD hS => ?_)
          exact jp_82 z7 y1 y2 y3 y4 r7 0 0 0 _ _ _ h hP hD hS (lv_sub hl [1, 2, 3, 4, 0] rfl)
        · replace h := if_f hc h
          refine lv_iconst (v := 0) hx hb d_SlippedStreamsModel_work_72 (by decide) ?_
          refine lv_goto (tgt := 82) hx hb d_SlippedStreamsModel_work_73 (by decide) ?_
          exact jp_82 z6 y1 y2 y3 y4 0 0 0 0 _ _ _ h hP hD hS (lv_sub hl [1, 2, 3, 4, 0] rfl)
      · intro z0 y1 y2 y3 y4 y5 y6 y7 y8 H locs ls h hP hD hS hl
        replace h : m_work_g82 (m_work_f n) z0 y1 y2 y3 y4 y5 y6 y7 y8 = some R := h
        unfold m_work_g82 at h
        refine lv_istore (lv' := [(5, .int y5), (0, .ref (ad 0)), (1, .int y1), (2, .int y2), (3, .int y3), (4, .int y4)]) hx hb d_SlippedStreamsModel_work_82 hl (by decide) rfl (fun ls hl => ?_)
        refine lv_iconst (v := 0) hx hb d_SlippedStreamsModel_work_84 (by decide) ?_
        refine lv_istore (lv' := [(6, .int 0), (5, .int y5), (0, .ref (ad 0)), (1, .int y1), (2, .int y2), (3, .int y3), (4, .int y4)]) hx hb d_SlippedStreamsModel_work_85 hl (by decide) rfl (fun ls hl => ?_)
        exact jp_87 z0 y1 y2 y3 y4 y5 0 0 0 _ _ _ h hP hD hS (lv_sub hl [2, 3, 4, 5, 6, 1, 0] rfl)
      · intro z0 y1 y2 y3 y4 y5 y6 y7 y8 H locs ls h hP hD hS hl
        replace h : m_work_g87 (m_work_f n) z0 y1 y2 y3 y4 y5 y6 y7 y8 = some R := h
        unfold m_work_g87 at h
        refine lv_iload hx hb d_SlippedStreamsModel_work_87 (lv_at hl 6 rfl) ?_
        refine lv_iload_n hx hb d_SlippedStreamsModel_work_89 rfl (lv_at hl 3 rfl) ?_
        refine lv_icmp_ge (tgt := 105) hx hb d_SlippedStreamsModel_work_90 (by decide) (fun hc => ?_) (fun hc => ?_)
        · replace h := if_t hc h
          refine lv_aload_n hx hb d_SlippedStreamsModel_work_105 rfl (lv_at hl 0 rfl) ?_
          refine lv_iload_n hx hb d_SlippedStreamsModel_work_106 rfl (lv_at hl 1 rfl) ?_
          obtain ⟨r8, z8, hc8, h⟩ := obn_e h
          refine q_goi (va_runV (As := [.int y1]) (rest := []) ⟨hx, hb, hml, hown, hts⟩ (c_m_isBranch l dC dI cI cZ ad z0 y1 _ hc8 _) (cwV 1 hts (q_goodL _ (q_l4 k_921 k_923 k_30 k_64) k_924) rfl rfl rfl (by decide +kernel) ⟨Nat.le_of_ble_eq_true rfl, Nat.le_of_ble_eq_true rfl⟩) (q_preV qok hKK hP hD (va_recv (ci := 9) (q0 := 0) hK hP rfl rfl)) rfl rfl hl.1 rfl (lv_room (Nat.le_of_ble_eq_true rfl)) d_SlippedStreamsModel_work_107 ⟨Nat.le_refl _, Nat.le_refl _⟩) hD hS hA (fun H locs hP hD hS => ?_)
          refine lv_if_eq (tgt := 128) hx hb d_SlippedStreamsModel_work_110 (by decide) (fun hc => ?_) (fun hc => ?_)
          · replace h := if_t hc h
            exact jp_128 z8 y1 y2 y3 y4 y5 y6 0 0 _ _ _ h hP hD hS (lv_sub hl [0, 1, 2, 3, 4, 5, 6] rfl)
          · replace h := if_f hc h
            refine lv_iload_n hx hb d_SlippedStreamsModel_work_113 rfl (lv_at hl 2 rfl) ?_
            refine lv_iload hx hb d_SlippedStreamsModel_work_114 (lv_at hl 4 rfl) ?_
            refine lv_iload hx hb d_SlippedStreamsModel_work_116 (lv_at hl 5 rfl) ?_
            obtain ⟨r9, z9, hc9, h⟩ := obn_e h
            refine q_goi (va_runS (As := [.int y2, .int y4, .int y5]) (rest := []) ⟨hx, hb, hml, hown, hts⟩ (c_m_holds l dC dI cI cZ ad z8 y2 y4 y5 _ hc9 _) (va_cwS 3 hts (q_goodL _ (q_l3 k_1001 k_1002 k_64) k_1003) rfl rfl rfl (by decide +kernel) ⟨Nat.le_of_ble_eq_true rfl, Nat.le_of_ble_eq_true rfl⟩) (q_preS qok hKK hP hD) rfl rfl hl.1 rfl (lv_room (Nat.le_of_ble_eq_true rfl)) d_SlippedStreamsModel_work_118 ⟨Nat.le_refl _, Nat.le_refl _⟩) hD hS hA (fun H locs hP hD hS => ?_)
            refine lv_if_eq (tgt := 128) hx hb d_SlippedStreamsModel_work_121 (by decide) (fun hc => ?_) (fun hc => ?_)
            · replace h := if_t hc h
              exact jp_128 z9 y1 y2 y3 y4 y5 y6 0 0 _ _ _ h hP hD hS (lv_sub hl [0, 1, 2, 3, 4, 5, 6] rfl)
            · replace h := if_f hc h
              refine lv_iconst (v := 1) hx hb d_SlippedStreamsModel_work_124 (by decide) ?_
              refine lv_goto (tgt := 129) hx hb d_SlippedStreamsModel_work_125 (by decide) ?_
              exact jp_129 z9 y1 y2 y3 y4 y5 y6 1 0 _ _ _ h hP hD hS (lv_sub hl [0, 1, 2, 3, 4, 5, 6] rfl)
        · replace h := if_f hc h
          refine lv_aload_n hx hb d_SlippedStreamsModel_work_93 rfl (lv_at hl 0 rfl) ?_
          refine lv_iconst (v := 4) hx hb d_SlippedStreamsModel_work_94 (by decide) ?_
          obtain ⟨r10, z10, hc10, h⟩ := obn_e h
          refine q_goi (va_runV (As := [.int 4]) (rest := []) ⟨hx, hb, hml, hown, hts⟩ (c_m_take l dC dI cI cZ ad z0 4 _ hc10 _) (cwV 1 hts (q_goodL _ (q_l4 k_985 k_987 k_42 k_64) k_988) rfl rfl rfl (by decide +kernel) ⟨Nat.le_of_ble_eq_true rfl, Nat.le_of_ble_eq_true rfl⟩) (q_preV qok hKK hP hD (va_recv (ci := 9) (q0 := 0) hK hP rfl rfl)) rfl rfl hl.1 rfl (lv_room (Nat.le_of_ble_eq_true rfl)) d_SlippedStreamsModel_work_95 ⟨Nat.le_refl _, Nat.le_refl _⟩) hD hS hA (fun H locs hP hD hS => ?_)
          refine lv_pop hx hb d_SlippedStreamsModel_work_98 rfl ?_
          refine lv_iinc (k := 6) (v := y6 + 1) (lv' := [(6, .int (y6 + 1)), (0, .ref (ad 0)), (1, .int y1), (2, .int y2), (3, .int y3), (4, .int y4), (5, .int y5)]) hx hb d_SlippedStreamsModel_work_99 hl rfl rfl (by decide) rfl (fun ls hl => ?_)
          refine lv_goto (tgt := 87) hx hb d_SlippedStreamsModel_work_102 (by decide) ?_
          exact jp_87 z10 y1 y2 y3 y4 y5 (y6 + 1) 0 0 _ _ _ h hP hD hS (lv_sub hl [1, 2, 3, 4, 5, 6, 0] rfl)
      · intro z0 y1 y2 y3 y4 y5 y6 y7 y8 H locs ls h hP hD hS hl
        replace h : m_work_g128 (m_work_f n) z0 y1 y2 y3 y4 y5 y6 y7 y8 = some R := h
        unfold m_work_g128 at h
        refine lv_iconst (v := 0) hx hb d_SlippedStreamsModel_work_128 (by decide) ?_
        exact jp_129 z0 y1 y2 y3 y4 y5 y6 0 0 _ _ _ h hP hD hS (lv_sub hl [0, 1, 2, 3, 4, 5, 6] rfl)
      · intro z0 y1 y2 y3 y4 y5 y6 y7 y8 H locs ls h hP hD hS hl
        replace h : m_work_g129 (m_work_f n) z0 y1 y2 y3 y4 y5 y6 y7 y8 = some R := h
        unfold m_work_g129 at h
        refine lv_istore (lv' := [(6, .int y7), (0, .ref (ad 0)), (1, .int y1), (2, .int y2), (3, .int y3), (4, .int y4), (5, .int y5)]) hx hb d_SlippedStreamsModel_work_129 hl (by decide) rfl (fun ls hl => ?_)
        refine lv_aload_n hx hb d_SlippedStreamsModel_work_131 rfl (lv_at hl 1 rfl) ?_
        refine lv_iload_n hx hb d_SlippedStreamsModel_work_132 rfl (lv_at hl 2 rfl) ?_
        obtain ⟨r11, z11, hc11, h⟩ := obn_e h
        refine q_goi (va_runV (As := [.int y1]) (rest := []) ⟨hx, hb, hml, hown, hts⟩ (c_m_isBranch l dC dI cI cZ ad z0 y1 _ hc11 _) (cwV 1 hts (q_goodL _ (q_l4 k_921 k_923 k_30 k_64) k_924) rfl rfl rfl (by decide +kernel) ⟨Nat.le_of_ble_eq_true rfl, Nat.le_of_ble_eq_true rfl⟩) (q_preV qok hKK hP hD (va_recv (ci := 9) (q0 := 0) hK hP rfl rfl)) rfl rfl hl.1 rfl (lv_room (Nat.le_of_ble_eq_true rfl)) d_SlippedStreamsModel_work_133 ⟨Nat.le_refl _, Nat.le_refl _⟩) hD hS hA (fun H locs hP hD hS => ?_)
        refine lv_if_eq (tgt := 157) hx hb d_SlippedStreamsModel_work_136 (by decide) (fun hc => ?_) (fun hc => ?_)
        · replace h := if_t hc h
          refine lv_iload_n hx hb d_SlippedStreamsModel_work_157 rfl (lv_at hl 3 rfl) ?_
          refine lv_bipush (v := 8) hx hb d_SlippedStreamsModel_work_158 (by decide) ?_
          refine lv_icmp_ne (tgt := 187) hx hb d_SlippedStreamsModel_work_160 (by decide) (fun hc => ?_) (fun hc => ?_)
          · replace h := if_f hc h
            refine lv_aload_n hx hb d_SlippedStreamsModel_work_187 rfl (lv_at hl 1 rfl) ?_
            refine mg_0_registers hx hb hts hin_SlippedStreamsModel hown hK hP (hts _ k_821) (fun _ h9 => h9) d_SlippedStreamsModel_work_188 ?_
            refine lv_bipush (v := 8) hx hb d_SlippedStreamsModel_work_191 (by decide) ?_
            refine lv_aload_n hx hb d_SlippedStreamsModel_work_193 rfl (lv_at hl 1 rfl) ?_
            refine mg_0_as hx hb hts hin_SlippedStreamsModel hown hK hP (hts _ k_815) (fun _ h9 => h9) d_SlippedStreamsModel_work_194 ?_
            refine lv_iload_n hx hb d_SlippedStreamsModel_work_197 rfl (lv_at hl 2 rfl) ?_
            obtain ⟨hi, h⟩ := gin_e h
            refine ml_1 hx hb hK hP hi d_SlippedStreamsModel_work_198 ?_
            refine lv_iadd hx hb d_SlippedStreamsModel_work_199 ?_
            refine lv_iload_n hx hb d_SlippedStreamsModel_work_200 rfl (lv_at hl 3 rfl) ?_
            refine lv_if_ne (tgt := 213) hx hb d_SlippedStreamsModel_work_201 (by decide) (fun hc => ?_) (fun hc => ?_)
            · replace h := if_f hc h
              refine lv_iload_n hx hb d_SlippedStreamsModel_work_213 rfl (lv_at hl 3 rfl) ?_
              refine lv_iload hx hb d_SlippedStreamsModel_work_214 (lv_at hl 5 rfl) ?_
              refine lv_iload hx hb d_SlippedStreamsModel_work_216 (lv_at hl 6 rfl) ?_
              obtain ⟨r12, z12, hc12, h⟩ := obn_e h
              refine q_goi (va_runS (As := [.int y2, .int y4, .int y5]) (rest := [.int (8 + (z11.2 1 y1.toNatClampNeg)), .ref (ad 6)]) ⟨hx, hb, hml, hown, hts⟩ (c_m_reckon l dC dI cI cZ ad z11 y2 y4 y5 _ hc12 _) (va_cwS 3 hts (q_goodL _ (q_l3 k_1004 k_1005 k_64) k_1006) rfl rfl rfl (by decide +kernel) ⟨Nat.le_of_ble_eq_true rfl, Nat.le_of_ble_eq_true rfl⟩) (q_preS qok hKK hP hD) rfl rfl hl.1 rfl (lv_room (Nat.le_of_ble_eq_true rfl)) d_SlippedStreamsModel_work_218 ⟨Nat.le_refl _, Nat.le_refl _⟩) hD hS hA (fun H locs hP hD hS => ?_)
              exact jp_221 z12 y1 y2 y3 y4 y5 y7 (8 + (z11.2 1 y1.toNatClampNeg)) r12 _ _ _ h hP hD hS (lv_sub hl [1, 2, 3, 4, 5, 6, 0] rfl)
            · replace h := if_t hc h
              refine lv_aload_n hx hb d_SlippedStreamsModel_work_204 rfl (lv_at hl 1 rfl) ?_
              refine mg_0_cs hx hb hts hin_SlippedStreamsModel hown hK hP (hts _ k_817) (fun _ h9 => h9) d_SlippedStreamsModel_work_205 ?_
              refine lv_iload_n hx hb d_SlippedStreamsModel_work_208 rfl (lv_at hl 2 rfl) ?_
              obtain ⟨hi, h⟩ := gin_e h
              refine ml_3 hx hb hK hP hi d_SlippedStreamsModel_work_209 ?_
              refine lv_goto (tgt := 221) hx hb d_SlippedStreamsModel_work_210 (by decide) ?_
              exact jp_221 z11 y1 y2 y3 y4 y5 y7 (8 + (z11.2 1 y1.toNatClampNeg)) (z11.2 3 y1.toNatClampNeg) _ _ _ h hP hD hS (lv_sub hl [1, 2, 3, 4, 5, 6, 0] rfl)
          · replace h := if_t hc h
            refine lv_aload_n hx hb d_SlippedStreamsModel_work_163 rfl (lv_at hl 1 rfl) ?_
            refine lv_iconst (v := 0) hx hb d_SlippedStreamsModel_work_164 (by decide) ?_
            refine lv_aload_n hx hb d_SlippedStreamsModel_work_165 rfl (lv_at hl 1 rfl) ?_
            refine mg_0_streamOutputs hx hb hts hin_SlippedStreamsModel hown hK hP (hts _ k_838) (fun _ h9 => h9) d_SlippedStreamsModel_work_166 ?_
            refine lv_iload hx hb d_SlippedStreamsModel_work_169 (lv_at hl 5 rfl) ?_
            obtain ⟨r13, z13, hc13, h⟩ := obn_e h
            refine q_gov (va_runV (As := [.int 0, .int (z11.1 8), .int y4]) (rest := []) ⟨hx, hb, hml, hown, hts⟩ (c_m_write l dC dI cI cZ ad z11 0 (z11.1 8) y4 _ hc13 _) (cwV 3 hts (q_goodL _ (q_l4 k_1027 k_1029 k_50 k_64) k_1030) rfl rfl rfl (by decide +kernel) ⟨Nat.le_of_ble_eq_true rfl, Nat.le_of_ble_eq_true rfl⟩) (q_preV qok hKK hP hD (va_recv (ci := 9) (q0 := 0) hK hP rfl rfl)) rfl rfl hl.1 rfl (lv_room (Nat.le_of_ble_eq_true rfl)) d_SlippedStreamsModel_work_171 ⟨Nat.le_refl _, Nat.le_refl _⟩) hD hS hA (fun H locs hP hD hS => ?_)
            refine lv_aload_n hx hb d_SlippedStreamsModel_work_174 rfl (lv_at hl 1 rfl) ?_
            refine lv_aload_n hx hb d_SlippedStreamsModel_work_175 rfl (lv_at hl 1 rfl) ?_
            refine mg_0_streamOutputs hx hb hts hin_SlippedStreamsModel hown hK hP (hts _ k_838) (fun _ h9 => h9) d_SlippedStreamsModel_work_176 ?_
            refine lv_iconst (v := 1) hx hb d_SlippedStreamsModel_work_179 (by decide) ?_
            refine lv_iadd hx hb d_SlippedStreamsModel_work_180 ?_
            obtain ⟨z14, e14, h⟩ := bnd_e h
            refine mp_0_streamOutputs hx hb hts hin_SlippedStreamsModel hown hK hP hD hS (hts _ k_838) (fun _ h9 => h9) d_SlippedStreamsModel_work_181 e14 (fun H locs hP hD hS => ?_)
            refine lv_goto (tgt := 222) hx hb d_SlippedStreamsModel_work_184 (by decide) ?_
            exact jp_222 z14 y1 y2 y3 y4 y5 y7 0 0 _ _ _ h hP hD hS (lv_sub hl [1, 2, 3, 4, 5, 6, 0] rfl)
        · replace h := if_f hc h
          refine lv_aload_n hx hb d_SlippedStreamsModel_work_139 rfl (lv_at hl 1 rfl) ?_
          refine lv_iconst (v := 3) hx hb d_SlippedStreamsModel_work_140 (by decide) ?_
          refine lv_iload hx hb d_SlippedStreamsModel_work_141 (lv_at hl 0 rfl) ?_
          refine lv_if_eq (tgt := 150) hx hb d_SlippedStreamsModel_work_143 (by decide) (fun hc => ?_) (fun hc => ?_)
          · replace h := if_t hc h
            refine lv_iconst (v := 0) hx hb d_SlippedStreamsModel_work_150 (by decide) ?_
            exact jp_151 z11 y1 y2 y3 y4 y5 y7 3 0 _ _ _ h hP hD hS (lv_sub hl [1, 2, 3, 4, 5, 6, 0] rfl)
          · replace h := if_f hc h
            refine lv_iconst (v := 1) hx hb d_SlippedStreamsModel_work_146 (by decide) ?_
            refine lv_goto (tgt := 151) hx hb d_SlippedStreamsModel_work_147 (by decide) ?_
            exact jp_151 z11 y1 y2 y3 y4 y5 y7 3 1 _ _ _ h hP hD hS (lv_sub hl [1, 2, 3, 4, 5, 6, 0] rfl)
      · intro z0 y1 y2 y3 y4 y5 y6 y7 y8 H locs ls h hP hD hS hl
        replace h : m_work_g151 (m_work_f n) z0 y1 y2 y3 y4 y5 y6 y7 y8 = some R := h
        unfold m_work_g151 at h
        obtain ⟨r15, z15, hc15, h⟩ := obn_e h
        refine q_gov (va_runV (As := [.int y7, .int y8]) (rest := []) ⟨hx, hb, hml, hown, hts⟩ (c_m_put l dC dI cI cZ ad z0 y7 y8 _ hc15 _) (cwV 2 hts (q_goodL _ (q_l4 k_973 k_975 k_39 k_64) k_976) rfl rfl rfl (by decide +kernel) ⟨Nat.le_of_ble_eq_true rfl, Nat.le_of_ble_eq_true rfl⟩) (q_preV qok hKK hP hD (va_recv (ci := 9) (q0 := 0) hK hP rfl rfl)) rfl rfl hl.1 rfl (lv_room (Nat.le_of_ble_eq_true rfl)) d_SlippedStreamsModel_work_151 ⟨Nat.le_refl _, Nat.le_refl _⟩) hD hS hA (fun H locs hP hD hS => ?_)
        refine lv_goto (tgt := 222) hx hb d_SlippedStreamsModel_work_154 (by decide) ?_
        exact jp_222 z15 y1 y2 y3 y4 y5 y6 0 0 _ _ _ h hP hD hS (lv_sub hl [0, 1, 2, 3, 4, 5, 6] rfl)
      · intro z0 y1 y2 y3 y4 y5 y6 y7 y8 H locs ls h hP hD hS hl
        replace h : m_work_g221 (m_work_f n) z0 y1 y2 y3 y4 y5 y6 y7 y8 = some R := h
        unfold m_work_g221 at h
        obtain ⟨hi, h⟩ := gin_e h
        obtain ⟨z16, e16, h⟩ := bnd_e h
        refine ms_5 hx hb hK hP hD hS hi d_SlippedStreamsModel_work_221 e16 (fun H locs hP hD hS => ?_)
        exact jp_222 z16 y1 y2 y3 y4 y5 y6 0 0 _ _ _ h hP hD hS (lv_sub hl [0, 1, 2, 3, 4, 5, 6] rfl)
      · intro z0 y1 y2 y3 y4 y5 y6 y7 y8 H locs ls h hP hD hS hl
        replace h : m_work_g222 (m_work_f n) z0 y1 y2 y3 y4 y5 y6 y7 y8 = some R := h
        unfold m_work_g222 at h
        refine lv_aload_n hx hb d_SlippedStreamsModel_work_222 rfl (lv_at hl 0 rfl) ?_
        refine lv_iconst (v := 1) hx hb d_SlippedStreamsModel_work_223 (by decide) ?_
        refine lv_iload hx hb d_SlippedStreamsModel_work_224 (lv_at hl 6 rfl) ?_
        refine lv_if_eq (tgt := 238) hx hb d_SlippedStreamsModel_work_226 (by decide) (fun hc => ?_) (fun hc => ?_)
        · replace h := if_t hc h
          refine lv_iload_n hx hb d_SlippedStreamsModel_work_238 rfl (lv_at hl 1 rfl) ?_
          refine lv_iconst (v := 1) hx hb d_SlippedStreamsModel_work_239 (by decide) ?_
          refine lv_iadd hx hb d_SlippedStreamsModel_work_240 ?_
          exact jp_241 z0 y1 y2 y3 y4 y5 y6 1 (y1 + 1) _ _ _ h hP hD hS (lv_sub hl [0, 1, 2, 3, 4, 5, 6] rfl)
        · replace h := if_f hc h
          refine lv_aload_n hx hb d_SlippedStreamsModel_work_229 rfl (lv_at hl 0 rfl) ?_
          refine mg_0_cs hx hb hts hin_SlippedStreamsModel hown hK hP (hts _ k_817) (fun _ h9 => h9) d_SlippedStreamsModel_work_230 ?_
          refine lv_iload_n hx hb d_SlippedStreamsModel_work_233 rfl (lv_at hl 1 rfl) ?_
          obtain ⟨hi, h⟩ := gin_e h
          refine ml_3 hx hb hK hP hi d_SlippedStreamsModel_work_234 ?_
          refine lv_goto (tgt := 241) hx hb d_SlippedStreamsModel_work_235 (by decide) ?_
          exact jp_241 z0 y1 y2 y3 y4 y5 y6 1 (z0.2 3 y1.toNatClampNeg) _ _ _ h hP hD hS (lv_sub hl [0, 1, 2, 3, 4, 5, 6] rfl)
      · intro z0 y1 y2 y3 y4 y5 y6 y7 y8 H locs ls h hP hD hS hl
        replace h : m_work_g241 (m_work_f n) z0 y1 y2 y3 y4 y5 y6 y7 y8 = some R := h
        unfold m_work_g241 at h
        obtain ⟨r17, z17, hc17, h⟩ := obn_e h
        refine q_gov (va_runV (As := [.int y7, .int y8]) (rest := []) ⟨hx, hb, hml, hown, hts⟩ (c_m_leave l dC dI cI cZ ad z0 y7 y8 _ hc17 _) (cwV 2 hts (q_goodL _ (q_l4 k_977 k_979 k_40 k_64) k_980) rfl rfl rfl (by decide +kernel) ⟨Nat.le_of_ble_eq_true rfl, Nat.le_of_ble_eq_true rfl⟩) (q_preV qok hKK hP hD (va_recv (ci := 9) (q0 := 0) hK hP rfl rfl)) rfl rfl hl.1 rfl (lv_room (Nat.le_of_ble_eq_true rfl)) d_SlippedStreamsModel_work_241 ⟨Nat.le_refl _, Nat.le_refl _⟩) hD hS hA (fun H locs hP hD hS => ?_)
        refine lv_iconst (v := 1) hx hb d_SlippedStreamsModel_work_244 (by decide) ?_
        exact q_zret hx hb hr hlocks h hP hD hS d_SlippedStreamsModel_work_245
  exact (key 4000).1 z0 x1 0 0 0 0 0 0 0 _ _ _ h hP hD hS (lv_sub hl [0, 1] rfl)
def m_give_g0 (k : Nat → ST → Int32 → Int32 → Int32 → OR) (z0 : ST) (y1 y2 y3 : Int32) : OR := gin y1 24 (gin (8 + (z0.2 1 y1.toNatClampNeg)) 16 (k 1 z0 y1 (z0.2 5 (8 + (z0.2 1 y1.toNatClampNeg)).toNatClampNeg) 0))
def m_give_g17 (k : Nat → ST → Int32 → Int32 → Int32 → OR) (z0 : ST) (y1 y2 y3 : Int32) : OR := if (z0.1 6) ≤ y3 then (k 2 z0 y1 y2 y3) else (gin y3 6 (if (z0.2 13 y3.toNatClampNeg) = 0 then (k 2 z0 y1 y2 y3) else (k 1 z0 y1 y2 (y3 + 1))))
def m_give_g41 (k : Nat → ST → Int32 → Int32 → Int32 → OR) (z0 : ST) (y1 y2 y3 : Int32) : OR := if y3 = (z0.1 6) then (obn (m_hasRoom z0 1 1) (fun r1 z1 => if r1 = 0 then (gib 0 (some (0, z1))) else (k 3 z1 y1 y2 y3))) else (k 3 z0 y1 y2 y3)
def m_give_g60 (k : Nat → ST → Int32 → Int32 → Int32 → OR) (z0 : ST) (y1 y2 y3 : Int32) : OR := if (z0.1 6) ≤ y3 then (obn (m_put z0 1 y2) (fun r2 z2 => k 4 z2 y1 y2 y3)) else (gin y3 6 (gib 1 (bnd (stA z0 13 (upd (z0.2 13) y3.toNatClampNeg 1)) (fun z3 => gin y3 6 (bnd (stA z3 12 (upd (z3.2 12) y3.toNatClampNeg y2)) (fun z4 => obn (m_drain z4) (fun r5 z5 => k 4 z5 y1 y2 y3)))))))
def m_give_g95 (k : Nat → ST → Int32 → Int32 → Int32 → OR) (z0 : ST) (y1 y2 y3 : Int32) : OR := obn (m_leave z0 1 (y1 + 1)) (fun r6 z6 => gib 1 (some (1, z6)))
def m_give_g (k : Nat → ST → Int32 → Int32 → Int32 → OR) (n : Nat) : ST → Int32 → Int32 → Int32 → OR := match n with
  | 0 => m_give_g0 k
  | 1 => m_give_g17 k
  | 2 => m_give_g41 k
  | 3 => m_give_g60 k
  | 4 => m_give_g95 k
  | _ => fun _ _ _ _ => none
def m_give_f : Nat → Nat → ST → Int32 → Int32 → Int32 → OR
  | 0 => fun _ _ _ _ _ => none
  | n + 1 => m_give_g (m_give_f n)
def m_give (z0 : ST) (x1 : Int32) : OR := m_give_f 4000 0 z0 x1 0 0
set_option maxRecDepth 100000 in
set_option maxHeartbeats 4000000 in
theorem c_m_give (l : Launch) (dC : Nat → ClassId) (dI : Nat → Nat → Nat) (cI cZ : ClassId) (ad : Nat → Nat) (z0 : ST) (x1 : Int32) (R : Int32 × ST) (h : m_give z0 x1 = some R) : qMi l y_SlippedStreamsModel_give w_SlippedStreamsModel_give 7 156 (KX dC dI cI cZ) (dC, dI) q_cl (wM cI cZ ad) [.ref (ad 0), .int x1] z0 R := by
  intro sz
  refine Met.ofW (cc := b_SlippedStreamsModel_give) (maxL := 4) (ret := (some .boolean)) (by decide) rfl ?_
  intro p e s m args below meth c s₁ B hml hv
  obtain ⟨rfl, hsz, hP, hKK, hD0⟩ := hv
  have hx := B.exec
  have hb := B.bytes
  have hr := B.returns
  have hts : ∀ w ∈ q_big, w.before _ s = true := fun w h => atoms_spec (ws := w_SlippedStreamsModel_give) B.pre w (List.mem_cons_of_mem _ h)
  have hown : s.vm.findClass "SlippedStreamsModel" = some m.cls := findClass_of_methodNamed B.named
  have hlocks := B.notSynchronized
  subst hsz
  have hD := hD0.self (sz := s.heap.size)
  generalize hAe : va_A (wM cI cZ ad z0) s.heap.size = A at hD ⊢
  have hA : ∀ q : Nat, s.heap.size ≤ q → A q := fun q h => by rw [← hAe]; exact Or.inr h
  have hS : va_S A s.heap s.heap [] := va_S.rf
  have hK := hKK.1
  have hl := lv_entry ([.ref (ad 0), .int x1]) (n := 4) (Nat.le_of_ble_eq_true rfl)
  rw [lg_entry_eq]
  generalize (lg_sl ([.ref (ad 0), .int x1]) ++ List.replicate (4 - (lg_sl ([.ref (ad 0), .int x1])).length) Slot.unset).toArray = ls at hl ⊢
  have hl : lv_has ls 4 [(0, .ref (ad 0)), (1, .int x1)] := hl
  have key : ∀ n : Nat, (∀ (z0 : ST) (y1 y2 y3 : Int32) (H : Heap) (locs : List Loc) (ls : Array Slot), m_give_f n 0 z0 y1 y2 y3 = some R → va_P (dC, dI) q_cl (wM cI cZ ad z0) H → va_D A (wM cI cZ ad z0) → va_S A s.heap H locs → lv_has ls 4 [(0, .ref (ad 0)), (1, .int y1)] → qWi p l e w_SlippedStreamsModel_give 7 156 s m [.ref (ad 0), .int x1] below meth c (dC, dI) q_cl (wM cI cZ ad) A R H locs (F0 m 0 ls [])) ∧ (∀ (z0 : ST) (y1 y2 y3 : Int32) (H : Heap) (locs : List Loc) (ls : Array Slot), m_give_f n 1 z0 y1 y2 y3 = some R → va_P (dC, dI) q_cl (wM cI cZ ad z0) H → va_D A (wM cI cZ ad z0) → va_S A s.heap H locs → lv_has ls 4 [(0, .ref (ad 0)), (1, .int y1), (2, .int y2), (3, .int y3)] → qWi p l e w_SlippedStreamsModel_give 7 156 s m [.ref (ad 0), .int x1] below meth c (dC, dI) q_cl (wM cI cZ ad) A R H locs (F0 m 17 ls [])) ∧ (∀ (z0 : ST) (y1 y2 y3 : Int32) (H : Heap) (locs : List Loc) (ls : Array Slot), m_give_f n 2 z0 y1 y2 y3 = some R → va_P (dC, dI) q_cl (wM cI cZ ad z0) H → va_D A (wM cI cZ ad z0) → va_S A s.heap H locs → lv_has ls 4 [(0, .ref (ad 0)), (1, .int y1), (2, .int y2), (3, .int y3)] → qWi p l e w_SlippedStreamsModel_give 7 156 s m [.ref (ad 0), .int x1] below meth c (dC, dI) q_cl (wM cI cZ ad) A R H locs (F0 m 41 ls [])) ∧ (∀ (z0 : ST) (y1 y2 y3 : Int32) (H : Heap) (locs : List Loc) (ls : Array Slot), m_give_f n 3 z0 y1 y2 y3 = some R → va_P (dC, dI) q_cl (wM cI cZ ad z0) H → va_D A (wM cI cZ ad z0) → va_S A s.heap H locs → lv_has ls 4 [(0, .ref (ad 0)), (1, .int y1), (2, .int y2), (3, .int y3)] → qWi p l e w_SlippedStreamsModel_give 7 156 s m [.ref (ad 0), .int x1] below meth c (dC, dI) q_cl (wM cI cZ ad) A R H locs (F0 m 60 ls [])) ∧ (∀ (z0 : ST) (y1 y2 y3 : Int32) (H : Heap) (locs : List Loc) (ls : Array Slot), m_give_f n 4 z0 y1 y2 y3 = some R → va_P (dC, dI) q_cl (wM cI cZ ad z0) H → va_D A (wM cI cZ ad z0) → va_S A s.heap H locs → lv_has ls 4 [(0, .ref (ad 0)), (1, .int y1), (2, .int y2), (3, .int y3)] → qWi p l e w_SlippedStreamsModel_give 7 156 s m [.ref (ad 0), .int x1] below meth c (dC, dI) q_cl (wM cI cZ ad) A R H locs (F0 m 95 ls [])) := by
    intro n
    induction n with
    | zero => exact ⟨fun z0 y1 y2 y3 H locs ls h hP hD hS hl => (by cases h), fun z0 y1 y2 y3 H locs ls h hP hD hS hl => (by cases h), fun z0 y1 y2 y3 H locs ls h hP hD hS hl => (by cases h), fun z0 y1 y2 y3 H locs ls h hP hD hS hl => (by cases h), fun z0 y1 y2 y3 H locs ls h hP hD hS hl => (by cases h)⟩
    | succ n ih =>
      obtain ⟨jp_0, jp_17, jp_41, jp_60, jp_95⟩ := ih
      refine ⟨?_, ?_, ?_, ?_, ?_⟩
      · intro z0 y1 y2 y3 H locs ls h hP hD hS hl
        replace h : m_give_g0 (m_give_f n) z0 y1 y2 y3 = some R := h
        unfold m_give_g0 at h
        refine lv_aload_n hx hb d_SlippedStreamsModel_give_0 rfl (lv_at hl 0 rfl) ?_
        refine mg_0_registers hx hb hts hin_SlippedStreamsModel hown hK hP (hts _ k_821) (fun _ h9 => h9) d_SlippedStreamsModel_give_1 ?_
        refine lv_bipush (v := 8) hx hb d_SlippedStreamsModel_give_4 (by decide) ?_
        refine lv_aload_n hx hb d_SlippedStreamsModel_give_6 rfl (lv_at hl 0 rfl) ?_
        refine mg_0_as hx hb hts hin_SlippedStreamsModel hown hK hP (hts _ k_815) (fun _ h9 => h9) d_SlippedStreamsModel_give_7 ?_
        refine lv_iload_n hx hb d_SlippedStreamsModel_give_10 rfl (lv_at hl 1 rfl) ?_
        obtain ⟨hi, h⟩ := gin_e h
        refine ml_1 hx hb hK hP hi d_SlippedStreamsModel_give_11 ?_
        refine lv_iadd hx hb d_SlippedStreamsModel_give_12 ?_
        obtain ⟨hi, h⟩ := gin_e h
        refine ml_5 hx hb hK hP hi d_SlippedStreamsModel_give_13 ?_
        refine lv_istore_n (lv' := [(2, .int (z0.2 5 (8 + (z0.2 1 y1.toNatClampNeg)).toNatClampNeg)), (0, .ref (ad 0)), (1, .int y1)]) hx hb d_SlippedStreamsModel_give_14 rfl hl (by decide) rfl (fun ls hl => ?_)
        refine lv_iconst (v := 0) hx hb d_SlippedStreamsModel_give_15 (by decide) ?_
        refine lv_istore_n (lv' := [(3, .int 0), (2, .int (z0.2 5 (8 + (z0.2 1 y1.toNatClampNeg)).toNatClampNeg)), (0, .ref (ad 0)), (1, .int y1)]) hx hb d_SlippedStreamsModel_give_16 rfl hl (by decide) rfl (fun ls hl => ?_)
        exact jp_17 z0 y1 (z0.2 5 (8 + (z0.2 1 y1.toNatClampNeg)).toNatClampNeg) 0 _ _ _ h hP hD hS (lv_sub hl [2, 3, 1, 0] rfl)
      · intro z0 y1 y2 y3 H locs ls h hP hD hS hl
        replace h : m_give_g17 (m_give_f n) z0 y1 y2 y3 = some R := h
        unfold m_give_g17 at h
        refine lv_iload_n hx hb d_SlippedStreamsModel_give_17 rfl (lv_at hl 3 rfl) ?_
        refine lv_aload_n hx hb d_SlippedStreamsModel_give_18 rfl (lv_at hl 0 rfl) ?_
        refine mg_0_stores hx hb hts hin_SlippedStreamsModel hown hK hP (hts _ k_830) (fun _ h9 => h9) d_SlippedStreamsModel_give_19 ?_
        refine lv_icmp_ge (tgt := 41) hx hb d_SlippedStreamsModel_give_22 (by decide) (fun hc => ?_) (fun hc => ?_)
        · replace h := if_t hc h
          exact jp_41 z0 y1 y2 y3 _ _ _ h hP hD hS (lv_sub hl [0, 1, 2, 3] rfl)
        · replace h := if_f hc h
          refine lv_aload_n hx hb d_SlippedStreamsModel_give_25 rfl (lv_at hl 0 rfl) ?_
          refine mg_0_storeThere hx hb hts hin_SlippedStreamsModel hown hK hP (hts _ k_833) (fun _ h9 => h9) d_SlippedStreamsModel_give_26 ?_
          refine lv_iload_n hx hb d_SlippedStreamsModel_give_29 rfl (lv_at hl 3 rfl) ?_
          obtain ⟨hi, h⟩ := gin_e h
          refine ml_13 hx hb hK hP hi d_SlippedStreamsModel_give_30 ?_
          refine lv_if_eq (tgt := 41) hx hb d_SlippedStreamsModel_give_31 (by decide) (fun hc => ?_) (fun hc => ?_)
          · replace h := if_t hc h
            exact jp_41 z0 y1 y2 y3 _ _ _ h hP hD hS (lv_sub hl [0, 1, 2, 3] rfl)
          · replace h := if_f hc h
            refine lv_iload_n hx hb d_SlippedStreamsModel_give_34 rfl (lv_at hl 3 rfl) ?_
            refine lv_iconst (v := 1) hx hb d_SlippedStreamsModel_give_35 (by decide) ?_
            refine lv_iadd hx hb d_SlippedStreamsModel_give_36 ?_
            refine lv_istore_n (lv' := [(3, .int (y3 + 1)), (0, .ref (ad 0)), (1, .int y1), (2, .int y2)]) hx hb d_SlippedStreamsModel_give_37 rfl hl (by decide) rfl (fun ls hl => ?_)
            refine lv_goto (tgt := 17) hx hb d_SlippedStreamsModel_give_38 (by decide) ?_
            exact jp_17 z0 y1 y2 (y3 + 1) _ _ _ h hP hD hS (lv_sub hl [1, 2, 3, 0] rfl)
      · intro z0 y1 y2 y3 H locs ls h hP hD hS hl
        replace h : m_give_g41 (m_give_f n) z0 y1 y2 y3 = some R := h
        unfold m_give_g41 at h
        refine lv_iload_n hx hb d_SlippedStreamsModel_give_41 rfl (lv_at hl 3 rfl) ?_
        refine lv_aload_n hx hb d_SlippedStreamsModel_give_42 rfl (lv_at hl 0 rfl) ?_
        refine mg_0_stores hx hb hts hin_SlippedStreamsModel hown hK hP (hts _ k_830) (fun _ h9 => h9) d_SlippedStreamsModel_give_43 ?_
        refine lv_icmp_ne (tgt := 60) hx hb d_SlippedStreamsModel_give_46 (by decide) (fun hc => ?_) (fun hc => ?_)
        · replace h := if_f hc h
          exact jp_60 z0 y1 y2 y3 _ _ _ h hP hD hS (lv_sub hl [0, 1, 2, 3] rfl)
        · replace h := if_t hc h
          refine lv_aload_n hx hb d_SlippedStreamsModel_give_49 rfl (lv_at hl 0 rfl) ?_
          refine lv_iconst (v := 1) hx hb d_SlippedStreamsModel_give_50 (by decide) ?_
          refine lv_iconst (v := 1) hx hb d_SlippedStreamsModel_give_51 (by decide) ?_
          obtain ⟨r1, z1, hc1, h⟩ := obn_e h
          refine q_goi (va_runV (As := [.int 1, .int 1]) (rest := []) ⟨hx, hb, hml, hown, hts⟩ (c_m_hasRoom l dC dI cI cZ ad z0 1 1 _ hc1 _) (cwV 2 hts (q_goodL _ (q_l4 k_969 k_971 k_38 k_64) k_972) rfl rfl rfl (by decide +kernel) ⟨Nat.le_of_ble_eq_true rfl, Nat.le_of_ble_eq_true rfl⟩) (q_preV qok hKK hP hD (va_recv (ci := 9) (q0 := 0) hK hP rfl rfl)) rfl rfl hl.1 rfl (lv_room (Nat.le_of_ble_eq_true rfl)) d_SlippedStreamsModel_give_52 ⟨Nat.le_refl _, Nat.le_refl _⟩) hD hS hA (fun H locs hP hD hS => ?_)
          refine lv_if_ne (tgt := 60) hx hb d_SlippedStreamsModel_give_55 (by decide) (fun hc => ?_) (fun hc => ?_)
          · replace h := if_f hc h
            exact jp_60 z1 y1 y2 y3 _ _ _ h hP hD hS (lv_sub hl [0, 1, 2, 3] rfl)
          · replace h := if_t hc h
            refine lv_iconst (v := 0) hx hb d_SlippedStreamsModel_give_58 (by decide) ?_
            exact q_zret hx hb hr hlocks h hP hD hS d_SlippedStreamsModel_give_59
      · intro z0 y1 y2 y3 H locs ls h hP hD hS hl
        replace h : m_give_g60 (m_give_f n) z0 y1 y2 y3 = some R := h
        unfold m_give_g60 at h
        refine lv_iload_n hx hb d_SlippedStreamsModel_give_60 rfl (lv_at hl 3 rfl) ?_
        refine lv_aload_n hx hb d_SlippedStreamsModel_give_61 rfl (lv_at hl 0 rfl) ?_
        refine mg_0_stores hx hb hts hin_SlippedStreamsModel hown hK hP (hts _ k_830) (fun _ h9 => h9) d_SlippedStreamsModel_give_62 ?_
        refine lv_icmp_ge (tgt := 89) hx hb d_SlippedStreamsModel_give_65 (by decide) (fun hc => ?_) (fun hc => ?_)
        · replace h := if_t hc h
          refine lv_aload_n hx hb d_SlippedStreamsModel_give_89 rfl (lv_at hl 0 rfl) ?_
          refine lv_iconst (v := 1) hx hb d_SlippedStreamsModel_give_90 (by decide) ?_
          refine lv_iload_n hx hb d_SlippedStreamsModel_give_91 rfl (lv_at hl 2 rfl) ?_
          obtain ⟨r2, z2, hc2, h⟩ := obn_e h
          refine q_gov (va_runV (As := [.int 1, .int y2]) (rest := []) ⟨hx, hb, hml, hown, hts⟩ (c_m_put l dC dI cI cZ ad z0 1 y2 _ hc2 _) (cwV 2 hts (q_goodL _ (q_l4 k_973 k_975 k_39 k_64) k_976) rfl rfl rfl (by decide +kernel) ⟨Nat.le_of_ble_eq_true rfl, Nat.le_of_ble_eq_true rfl⟩) (q_preV qok hKK hP hD (va_recv (ci := 9) (q0 := 0) hK hP rfl rfl)) rfl rfl hl.1 rfl (lv_room (Nat.le_of_ble_eq_true rfl)) d_SlippedStreamsModel_give_92 ⟨Nat.le_refl _, Nat.le_refl _⟩) hD hS hA (fun H locs hP hD hS => ?_)
          exact jp_95 z2 y1 y2 y3 _ _ _ h hP hD hS (lv_sub hl [0, 1, 2, 3] rfl)
        · replace h := if_f hc h
          refine lv_aload_n hx hb d_SlippedStreamsModel_give_68 rfl (lv_at hl 0 rfl) ?_
          refine mg_0_storeThere hx hb hts hin_SlippedStreamsModel hown hK hP (hts _ k_833) (fun _ h9 => h9) d_SlippedStreamsModel_give_69 ?_
          refine lv_iload_n hx hb d_SlippedStreamsModel_give_72 rfl (lv_at hl 3 rfl) ?_
          refine lv_iconst (v := 1) hx hb d_SlippedStreamsModel_give_73 (by decide) ?_
          obtain ⟨hi, h⟩ := gin_e h
          obtain ⟨hv, h⟩ := gib_e h
          obtain ⟨z3, e3, h⟩ := bnd_e h
          refine ms_13 hx hb hK hP hD hS hi hv d_SlippedStreamsModel_give_74 e3 (fun H locs hP hD hS => ?_)
          refine lv_aload_n hx hb d_SlippedStreamsModel_give_75 rfl (lv_at hl 0 rfl) ?_
          refine mg_0_storeWord hx hb hts hin_SlippedStreamsModel hown hK hP (hts _ k_832) (fun _ h9 => h9) d_SlippedStreamsModel_give_76 ?_
          refine lv_iload_n hx hb d_SlippedStreamsModel_give_79 rfl (lv_at hl 3 rfl) ?_
          refine lv_iload_n hx hb d_SlippedStreamsModel_give_80 rfl (lv_at hl 2 rfl) ?_
          obtain ⟨hi, h⟩ := gin_e h
          obtain ⟨z4, e4, h⟩ := bnd_e h
          refine ms_12 hx hb hK hP hD hS hi d_SlippedStreamsModel_give_81 e4 (fun H locs hP hD hS => ?_)
          refine lv_aload_n hx hb d_SlippedStreamsModel_give_82 rfl (lv_at hl 0 rfl) ?_
          obtain ⟨r5, z5, hc5, h⟩ := obn_e h
          refine q_gov (va_runV (As := []) (rest := []) ⟨hx, hb, hml, hown, hts⟩ (c_m_drain l dC dI cI cZ ad z4 _ hc5 _) (cwV 0 hts (q_goodL _ (q_l4 k_989 k_991 k_43 k_64) k_992) rfl rfl rfl (by decide +kernel) ⟨Nat.le_of_ble_eq_true rfl, Nat.le_of_ble_eq_true rfl⟩) (q_preV qok hKK hP hD (va_recv (ci := 9) (q0 := 0) hK hP rfl rfl)) rfl rfl hl.1 rfl (lv_room (Nat.le_of_ble_eq_true rfl)) d_SlippedStreamsModel_give_83 ⟨Nat.le_refl _, Nat.le_refl _⟩) hD hS hA (fun H locs hP hD hS => ?_)
          refine lv_goto (tgt := 95) hx hb d_SlippedStreamsModel_give_86 (by decide) ?_
          exact jp_95 z5 y1 y2 y3 _ _ _ h hP hD hS (lv_sub hl [0, 1, 2, 3] rfl)
      · intro z0 y1 y2 y3 H locs ls h hP hD hS hl
        replace h : m_give_g95 (m_give_f n) z0 y1 y2 y3 = some R := h
        unfold m_give_g95 at h
        refine lv_aload_n hx hb d_SlippedStreamsModel_give_95 rfl (lv_at hl 0 rfl) ?_
        refine lv_iconst (v := 1) hx hb d_SlippedStreamsModel_give_96 (by decide) ?_
        refine lv_iload_n hx hb d_SlippedStreamsModel_give_97 rfl (lv_at hl 1 rfl) ?_
        refine lv_iconst (v := 1) hx hb d_SlippedStreamsModel_give_98 (by decide) ?_
        refine lv_iadd hx hb d_SlippedStreamsModel_give_99 ?_
        obtain ⟨r6, z6, hc6, h⟩ := obn_e h
        refine q_gov (va_runV (As := [.int 1, .int (y1 + 1)]) (rest := []) ⟨hx, hb, hml, hown, hts⟩ (c_m_leave l dC dI cI cZ ad z0 1 (y1 + 1) _ hc6 _) (cwV 2 hts (q_goodL _ (q_l4 k_977 k_979 k_40 k_64) k_980) rfl rfl rfl (by decide +kernel) ⟨Nat.le_of_ble_eq_true rfl, Nat.le_of_ble_eq_true rfl⟩) (q_preV qok hKK hP hD (va_recv (ci := 9) (q0 := 0) hK hP rfl rfl)) rfl rfl hl.1 rfl (lv_room (Nat.le_of_ble_eq_true rfl)) d_SlippedStreamsModel_give_100 ⟨Nat.le_refl _, Nat.le_refl _⟩) hD hS hA (fun H locs hP hD hS => ?_)
        refine lv_iconst (v := 1) hx hb d_SlippedStreamsModel_give_103 (by decide) ?_
        exact q_zret hx hb hr hlocks h hP hD hS d_SlippedStreamsModel_give_104
  exact (key 4000).1 z0 x1 0 0 _ _ _ h hP hD hS (lv_sub hl [0, 1] rfl)
