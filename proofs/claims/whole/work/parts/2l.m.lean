def m_reckons (z0 : ST) (x1 : Int32) : OR := if x1 ≤ 0 then (gib 0 (some (0, z0))) else (if 4 ≤ x1 then (gib 0 (some (0, z0))) else (gib 1 (some (1, z0))))
set_option maxRecDepth 100000 in
set_option maxHeartbeats 4000000 in
theorem c_m_reckons (l : Launch) (dC : Nat → ClassId) (dI : Nat → Nat → Nat) (cI cZ : ClassId) (ad : Nat → Nat) (z0 : ST) (x1 : Int32) (R : Int32 × ST) (h : m_reckons z0 x1 = some R) : qMi l y_SlippedStreamsModel_reckons w_SlippedStreamsModel_reckons 0 0 (KX dC dI cI cZ) (dC, dI) q_cl (wM cI cZ ad) [.int x1] z0 R := by
  intro sz
  refine Met.ofW (cc := b_SlippedStreamsModel_reckons) (maxL := 1) (ret := (some .boolean)) (by decide) rfl ?_
  intro p e s m args below meth c s₁ B hml hv
  obtain ⟨rfl, hsz, hP, hKK, hD0⟩ := hv
  have hx := B.exec
  have hb := B.bytes
  have hr := B.returns
  have hts : ∀ w ∈ q_big, w.before _ s = true := fun w h => atoms_spec (ws := w_SlippedStreamsModel_reckons) B.pre w (List.mem_cons_of_mem _ h)
  have hown : s.vm.findClass "SlippedStreamsModel" = some m.cls := findClass_of_methodNamed B.named
  have hlocks := B.notSynchronized
  subst hsz
  have hD := hD0.self (sz := s.heap.size)
  generalize hAe : va_A (wM cI cZ ad z0) s.heap.size = A at hD ⊢
  have hA : ∀ q : Nat, s.heap.size ≤ q → A q := fun q h => by rw [← hAe]; exact Or.inr h
  have hS : va_S A s.heap s.heap [] := va_S.rf
  have hK := hKK.1
  have hl := lv_entry ([.int x1]) (n := 1) (Nat.le_of_ble_eq_true rfl)
  rw [lg_entry_eq]
  generalize (lg_sl ([.int x1]) ++ List.replicate (1 - (lg_sl ([.int x1])).length) Slot.unset).toArray = ls at hl ⊢
  have hl : lv_has ls 1 [(0, .int x1)] := hl
  unfold m_reckons at h
  refine lv_iload_n hx hb d_SlippedStreamsModel_reckons_0 rfl (lv_at hl 0 rfl) ?_
  refine lv_if_le (tgt := 13) hx hb d_SlippedStreamsModel_reckons_1 (by decide) (fun hc => ?_) (fun hc => ?_)
  · replace h := if_t hc h
    refine lv_iconst (v := 0) hx hb d_SlippedStreamsModel_reckons_13 (by decide) ?_
    exact q_zret hx hb hr hlocks h hP hD hS d_SlippedStreamsModel_reckons_14
  · replace h := if_f hc h
    refine lv_iload_n hx hb d_SlippedStreamsModel_reckons_4 rfl (lv_at hl 0 rfl) ?_
    refine lv_iconst (v := 4) hx hb d_SlippedStreamsModel_reckons_5 (by decide) ?_
    refine lv_icmp_ge (tgt := 13) hx hb d_SlippedStreamsModel_reckons_6 (by decide) (fun hc => ?_) (fun hc => ?_)
    · replace h := if_t hc h
      refine lv_iconst (v := 0) hx hb d_SlippedStreamsModel_reckons_13 (by decide) ?_
      exact q_zret hx hb hr hlocks h hP hD hS d_SlippedStreamsModel_reckons_14
    · replace h := if_f hc h
      refine lv_iconst (v := 1) hx hb d_SlippedStreamsModel_reckons_9 (by decide) ?_
      refine lv_goto (tgt := 14) hx hb d_SlippedStreamsModel_reckons_10 (by decide) ?_
      exact q_zret hx hb hr hlocks h hP hD hS d_SlippedStreamsModel_reckons_14
def m_slice_g0 (k : Nat → ST → Int32 → Int32 → Int32 → OR) (z0 : ST) (y1 y2 y3 : Int32) : OR := k 1 z0 0 0 0
def m_slice_g2 (k : Nat → ST → Int32 → Int32 → Int32 → OR) (z0 : ST) (y1 y2 y3 : Int32) : OR := if 8 ≤ y1 then (k 2 z0 0 0 0) else (gin y1 8 (gib 0 (bnd (stA z0 4 (upd (z0.2 4) y1.toNatClampNeg 0)) (fun z1 => k 1 z1 (y1 + 1) 0 0))))
def m_slice_g23 (k : Nat → ST → Int32 → Int32 → Int32 → OR) (z0 : ST) (y1 y2 y3 : Int32) : OR := if 9 ≤ y1 then (some (0, z0)) else (k 3 z0 y1 0 0)
def m_slice_g31 (k : Nat → ST → Int32 → Int32 → Int32 → OR) (z0 : ST) (y1 y2 y3 : Int32) : OR := if (z0.1 0) ≤ y2 then (k 2 z0 (y1 + 1) 0 0) else (gin y2 24 (obn (m_reckons z0 (z0.2 0 y2.toNatClampNeg)) (fun r2 z2 => if r2 = 0 then (k 4 z2 y1 y2 0) else (gin y2 24 (gin (z2.2 1 y2.toNatClampNeg) 8 (if (z2.2 4 (z2.2 1 y2.toNatClampNeg).toNatClampNeg) = 0 then (k 4 z2 y1 y2 0) else (k 5 z2 y1 y2 1)))))))
def m_slice_g69 (k : Nat → ST → Int32 → Int32 → Int32 → OR) (z0 : ST) (y1 y2 y3 : Int32) : OR := k 5 z0 y1 y2 0
def m_slice_g70 (k : Nat → ST → Int32 → Int32 → Int32 → OR) (z0 : ST) (y1 y2 y3 : Int32) : OR := if y3 = 0 then (gin y2 24 (if (z0.2 0 y2.toNatClampNeg) = 4 then (k 6 z0 y1 y2 y3) else (gin y2 24 (if (z0.2 0 y2.toNatClampNeg) = 5 then (k 6 z0 y1 y2 y3) else (k 7 z0 y1 y2 y3))))) else (k 6 z0 y1 y2 y3)
def m_slice_g95 (k : Nat → ST → Int32 → Int32 → Int32 → OR) (z0 : ST) (y1 y2 y3 : Int32) : OR := gin y2 24 (gin (z0.2 2 y2.toNatClampNeg) 8 (gib 1 (bnd (stA z0 4 (upd (z0.2 4) (z0.2 2 y2.toNatClampNeg).toNatClampNeg 1)) (fun z3 => k 7 z3 y1 y2 y3))))
def m_slice_g107 (k : Nat → ST → Int32 → Int32 → Int32 → OR) (z0 : ST) (y1 y2 y3 : Int32) : OR := if y3 = 0 then (k 8 z0 y1 y2 y3) else (gin y2 24 (gin (z0.2 3 y2.toNatClampNeg) 8 (gib 1 (bnd (stA z0 4 (upd (z0.2 4) (z0.2 3 y2.toNatClampNeg).toNatClampNeg 1)) (fun z4 => k 8 z4 y1 y2 y3)))))
def m_slice_g123 (k : Nat → ST → Int32 → Int32 → Int32 → OR) (z0 : ST) (y1 y2 y3 : Int32) : OR := k 3 z0 y1 (y2 + 1) 0
def m_slice_g (k : Nat → ST → Int32 → Int32 → Int32 → OR) (n : Nat) : ST → Int32 → Int32 → Int32 → OR := match n with
  | 0 => m_slice_g0 k
  | 1 => m_slice_g2 k
  | 2 => m_slice_g23 k
  | 3 => m_slice_g31 k
  | 4 => m_slice_g69 k
  | 5 => m_slice_g70 k
  | 6 => m_slice_g95 k
  | 7 => m_slice_g107 k
  | 8 => m_slice_g123 k
  | _ => fun _ _ _ _ => none
def m_slice_f : Nat → Nat → ST → Int32 → Int32 → Int32 → OR
  | 0 => fun _ _ _ _ _ => none
  | n + 1 => m_slice_g (m_slice_f n)
def m_slice (z0 : ST) : OR := m_slice_f 4000 0 z0 0 0 0
set_option maxRecDepth 100000 in
set_option maxHeartbeats 4000000 in
theorem c_m_slice (l : Launch) (dC : Nat → ClassId) (dI : Nat → Nat → Nat) (cI cZ : ClassId) (ad : Nat → Nat) (z0 : ST) (R : Int32 × ST) (h : m_slice z0 = some R) : qMv l y_SlippedStreamsModel_slice w_SlippedStreamsModel_slice 1 20 (KX dC dI cI cZ) (dC, dI) q_cl (wM cI cZ ad) [.ref (ad 0)] z0 R := by
  intro sz
  refine Met.ofW (cc := b_SlippedStreamsModel_slice) (maxL := 4) (ret := none) (by decide) rfl ?_
  intro p e s m args below meth c s₁ B hml hv
  obtain ⟨rfl, hsz, hP, hKK, hD0⟩ := hv
  have hx := B.exec
  have hb := B.bytes
  have hr := B.returns
  have hts : ∀ w ∈ q_big, w.before _ s = true := fun w h => atoms_spec (ws := w_SlippedStreamsModel_slice) B.pre w (List.mem_cons_of_mem _ h)
  have hown : s.vm.findClass "SlippedStreamsModel" = some m.cls := findClass_of_methodNamed B.named
  have hlocks := B.notSynchronized
  subst hsz
  have hD := hD0.self (sz := s.heap.size)
  generalize hAe : va_A (wM cI cZ ad z0) s.heap.size = A at hD ⊢
  have hA : ∀ q : Nat, s.heap.size ≤ q → A q := fun q h => by rw [← hAe]; exact Or.inr h
  have hS : va_S A s.heap s.heap [] := va_S.rf
  have hK := hKK.1
  have hl := lv_entry ([.ref (ad 0)]) (n := 4) (Nat.le_of_ble_eq_true rfl)
  rw [lg_entry_eq]
  generalize (lg_sl ([.ref (ad 0)]) ++ List.replicate (4 - (lg_sl ([.ref (ad 0)])).length) Slot.unset).toArray = ls at hl ⊢
  have hl : lv_has ls 4 [(0, .ref (ad 0))] := hl
  have key : ∀ n : Nat, (∀ (z0 : ST) (y1 y2 y3 : Int32) (H : Heap) (locs : List Loc) (ls : Array Slot), m_slice_f n 0 z0 y1 y2 y3 = some R → va_P (dC, dI) q_cl (wM cI cZ ad z0) H → va_D A (wM cI cZ ad z0) → va_S A s.heap H locs → lv_has ls 4 [(0, .ref (ad 0))] → qWv p l e w_SlippedStreamsModel_slice 1 20 s m [.ref (ad 0)] below meth c (dC, dI) q_cl (wM cI cZ ad) A R H locs (F0 m 0 ls [])) ∧ (∀ (z0 : ST) (y1 y2 y3 : Int32) (H : Heap) (locs : List Loc) (ls : Array Slot), m_slice_f n 1 z0 y1 y2 y3 = some R → va_P (dC, dI) q_cl (wM cI cZ ad z0) H → va_D A (wM cI cZ ad z0) → va_S A s.heap H locs → lv_has ls 4 [(0, .ref (ad 0)), (1, .int y1)] → qWv p l e w_SlippedStreamsModel_slice 1 20 s m [.ref (ad 0)] below meth c (dC, dI) q_cl (wM cI cZ ad) A R H locs (F0 m 2 ls [])) ∧ (∀ (z0 : ST) (y1 y2 y3 : Int32) (H : Heap) (locs : List Loc) (ls : Array Slot), m_slice_f n 2 z0 y1 y2 y3 = some R → va_P (dC, dI) q_cl (wM cI cZ ad z0) H → va_D A (wM cI cZ ad z0) → va_S A s.heap H locs → lv_has ls 4 [(0, .ref (ad 0)), (1, .int y1)] → qWv p l e w_SlippedStreamsModel_slice 1 20 s m [.ref (ad 0)] below meth c (dC, dI) q_cl (wM cI cZ ad) A R H locs (F0 m 23 ls [])) ∧ (∀ (z0 : ST) (y1 y2 y3 : Int32) (H : Heap) (locs : List Loc) (ls : Array Slot), m_slice_f n 3 z0 y1 y2 y3 = some R → va_P (dC, dI) q_cl (wM cI cZ ad z0) H → va_D A (wM cI cZ ad z0) → va_S A s.heap H locs → lv_has ls 4 [(0, .ref (ad 0)), (1, .int y1), (2, .int y2)] → qWv p l e w_SlippedStreamsModel_slice 1 20 s m [.ref (ad 0)] below meth c (dC, dI) q_cl (wM cI cZ ad) A R H locs (F0 m 31 ls [])) ∧ (∀ (z0 : ST) (y1 y2 y3 : Int32) (H : Heap) (locs : List Loc) (ls : Array Slot), m_slice_f n 4 z0 y1 y2 y3 = some R → va_P (dC, dI) q_cl (wM cI cZ ad z0) H → va_D A (wM cI cZ ad z0) → va_S A s.heap H locs → lv_has ls 4 [(0, .ref (ad 0)), (1, .int y1), (2, .int y2)] → qWv p l e w_SlippedStreamsModel_slice 1 20 s m [.ref (ad 0)] below meth c (dC, dI) q_cl (wM cI cZ ad) A R H locs (F0 m 69 ls [])) ∧ (∀ (z0 : ST) (y1 y2 y3 : Int32) (H : Heap) (locs : List Loc) (ls : Array Slot), m_slice_f n 5 z0 y1 y2 y3 = some R → va_P (dC, dI) q_cl (wM cI cZ ad z0) H → va_D A (wM cI cZ ad z0) → va_S A s.heap H locs → lv_has ls 4 [(0, .ref (ad 0)), (1, .int y1), (2, .int y2)] → qWv p l e w_SlippedStreamsModel_slice 1 20 s m [.ref (ad 0)] below meth c (dC, dI) q_cl (wM cI cZ ad) A R H locs (F0 m 70 ls [.int y3])) ∧ (∀ (z0 : ST) (y1 y2 y3 : Int32) (H : Heap) (locs : List Loc) (ls : Array Slot), m_slice_f n 6 z0 y1 y2 y3 = some R → va_P (dC, dI) q_cl (wM cI cZ ad z0) H → va_D A (wM cI cZ ad z0) → va_S A s.heap H locs → lv_has ls 4 [(0, .ref (ad 0)), (1, .int y1), (2, .int y2), (3, .int y3)] → qWv p l e w_SlippedStreamsModel_slice 1 20 s m [.ref (ad 0)] below meth c (dC, dI) q_cl (wM cI cZ ad) A R H locs (F0 m 95 ls [])) ∧ (∀ (z0 : ST) (y1 y2 y3 : Int32) (H : Heap) (locs : List Loc) (ls : Array Slot), m_slice_f n 7 z0 y1 y2 y3 = some R → va_P (dC, dI) q_cl (wM cI cZ ad z0) H → va_D A (wM cI cZ ad z0) → va_S A s.heap H locs → lv_has ls 4 [(0, .ref (ad 0)), (1, .int y1), (2, .int y2), (3, .int y3)] → qWv p l e w_SlippedStreamsModel_slice 1 20 s m [.ref (ad 0)] below meth c (dC, dI) q_cl (wM cI cZ ad) A R H locs (F0 m 107 ls [])) ∧ (∀ (z0 : ST) (y1 y2 y3 : Int32) (H : Heap) (locs : List Loc) (ls : Array Slot), m_slice_f n 8 z0 y1 y2 y3 = some R → va_P (dC, dI) q_cl (wM cI cZ ad z0) H → va_D A (wM cI cZ ad z0) → va_S A s.heap H locs → lv_has ls 4 [(0, .ref (ad 0)), (1, .int y1), (2, .int y2), (3, .int y3)] → qWv p l e w_SlippedStreamsModel_slice 1 20 s m [.ref (ad 0)] below meth c (dC, dI) q_cl (wM cI cZ ad) A R H locs (F0 m 123 ls [])) := by
    intro n
    induction n with
    | zero => exact ⟨fun z0 y1 y2 y3 H locs ls h hP hD hS hl => (by cases h), fun z0 y1 y2 y3 H locs ls h hP hD hS hl => (by cases h), fun z0 y1 y2 y3 H locs ls h hP hD hS hl => (by cases h), fun z0 y1 y2 y3 H locs ls h hP hD hS hl => (by cases h), fun z0 y1 y2 y3 H locs ls h hP hD hS hl => (by cases h), fun z0 y1 y2 y3 H locs ls h hP hD hS hl => (by cases h), fun z0 y1 y2 y3 H locs ls h hP hD hS hl => (by cases h), fun z0 y1 y2 y3 H locs ls h hP hD hS hl => (by cases h), fun z0 y1 y2 y3 H locs ls h hP hD hS hl => (by cases h)⟩
    | succ n ih =>
      obtain ⟨jp_0, jp_2, jp_23, jp_31, jp_69, jp_70, jp_95, jp_107, jp_123⟩ := ih
      refine ⟨?_, ?_, ?_, ?_, ?_, ?_, ?_, ?_, ?_⟩
      · intro z0 y1 y2 y3 H locs ls h hP hD hS hl
        replace h : m_slice_g0 (m_slice_f n) z0 y1 y2 y3 = some R := h
        unfold m_slice_g0 at h
        refine lv_iconst (v := 0) hx hb d_SlippedStreamsModel_slice_0 (by decide) ?_
        refine lv_istore_n (lv' := [(1, .int 0), (0, .ref (ad 0))]) hx hb d_SlippedStreamsModel_slice_1 rfl hl (by decide) rfl (fun ls hl => ?_)
        exact jp_2 z0 0 0 0 _ _ _ h hP hD hS (lv_sub hl [1, 0] rfl)
      · intro z0 y1 y2 y3 H locs ls h hP hD hS hl
        replace h : m_slice_g2 (m_slice_f n) z0 y1 y2 y3 = some R := h
        unfold m_slice_g2 at h
        refine lv_iload_n hx hb d_SlippedStreamsModel_slice_2 rfl (lv_at hl 1 rfl) ?_
        refine lv_bipush (v := 8) hx hb d_SlippedStreamsModel_slice_3 (by decide) ?_
        refine lv_icmp_ge (tgt := 21) hx hb d_SlippedStreamsModel_slice_5 (by decide) (fun hc => ?_) (fun hc => ?_)
        · replace h := if_t hc h
          refine lv_iconst (v := 0) hx hb d_SlippedStreamsModel_slice_21 (by decide) ?_
          refine lv_istore_n (lv' := [(1, .int 0), (0, .ref (ad 0))]) hx hb d_SlippedStreamsModel_slice_22 rfl hl (by decide) rfl (fun ls hl => ?_)
          exact jp_23 z0 0 0 0 _ _ _ h hP hD hS (lv_sub hl [1, 0] rfl)
        · replace h := if_f hc h
          refine lv_aload_n hx hb d_SlippedStreamsModel_slice_8 rfl (lv_at hl 0 rfl) ?_
          refine mg_0_isAddress hx hb hts hin_SlippedStreamsModel hown hK hP (hts _ k_820) (fun _ h9 => h9) d_SlippedStreamsModel_slice_9 ?_
          refine lv_iload_n hx hb d_SlippedStreamsModel_slice_12 rfl (lv_at hl 1 rfl) ?_
          refine lv_iconst (v := 0) hx hb d_SlippedStreamsModel_slice_13 (by decide) ?_
          obtain ⟨hi, h⟩ := gin_e h
          obtain ⟨hv, h⟩ := gib_e h
          obtain ⟨z1, e1, h⟩ := bnd_e h
          refine ms_4 hx hb hK hP hD hS hi hv d_SlippedStreamsModel_slice_14 e1 (fun H locs hP hD hS => ?_)
          refine lv_iinc (k := 1) (v := y1 + 1) (lv' := [(1, .int (y1 + 1)), (0, .ref (ad 0))]) hx hb d_SlippedStreamsModel_slice_15 hl rfl rfl (by decide) rfl (fun ls hl => ?_)
          refine lv_goto (tgt := 2) hx hb d_SlippedStreamsModel_slice_18 (by decide) ?_
          exact jp_2 z1 (y1 + 1) 0 0 _ _ _ h hP hD hS (lv_sub hl [1, 0] rfl)
      · intro z0 y1 y2 y3 H locs ls h hP hD hS hl
        replace h : m_slice_g23 (m_slice_f n) z0 y1 y2 y3 = some R := h
        unfold m_slice_g23 at h
        refine lv_iload_n hx hb d_SlippedStreamsModel_slice_23 rfl (lv_at hl 1 rfl) ?_
        refine lv_bipush (v := 9) hx hb d_SlippedStreamsModel_slice_24 (by decide) ?_
        refine lv_icmp_ge (tgt := 135) hx hb d_SlippedStreamsModel_slice_26 (by decide) (fun hc => ?_) (fun hc => ?_)
        · replace h := if_t hc h
          exact q_vret hx hb hr hlocks h hP hD hS d_SlippedStreamsModel_slice_135
        · replace h := if_f hc h
          refine lv_iconst (v := 0) hx hb d_SlippedStreamsModel_slice_29 (by decide) ?_
          refine lv_istore_n (lv' := [(2, .int 0), (0, .ref (ad 0)), (1, .int y1)]) hx hb d_SlippedStreamsModel_slice_30 rfl hl (by decide) rfl (fun ls hl => ?_)
          exact jp_31 z0 y1 0 0 _ _ _ h hP hD hS (lv_sub hl [1, 2, 0] rfl)
      · intro z0 y1 y2 y3 H locs ls h hP hD hS hl
        replace h : m_slice_g31 (m_slice_f n) z0 y1 y2 y3 = some R := h
        unfold m_slice_g31 at h
        refine lv_iload_n hx hb d_SlippedStreamsModel_slice_31 rfl (lv_at hl 2 rfl) ?_
        refine lv_aload_n hx hb d_SlippedStreamsModel_slice_32 rfl (lv_at hl 0 rfl) ?_
        refine mg_0_count hx hb hts hin_SlippedStreamsModel hown hK hP (hts _ k_813) (fun _ h9 => h9) d_SlippedStreamsModel_slice_33 ?_
        refine lv_icmp_ge (tgt := 129) hx hb d_SlippedStreamsModel_slice_36 (by decide) (fun hc => ?_) (fun hc => ?_)
        · replace h := if_t hc h
          refine lv_iinc (k := 1) (v := y1 + 1) (lv' := [(1, .int (y1 + 1)), (0, .ref (ad 0)), (2, .int y2)]) hx hb d_SlippedStreamsModel_slice_129 hl rfl rfl (by decide) rfl (fun ls hl => ?_)
          refine lv_goto (tgt := 23) hx hb d_SlippedStreamsModel_slice_132 (by decide) ?_
          exact jp_23 z0 (y1 + 1) 0 0 _ _ _ h hP hD hS (lv_sub hl [1, 0] rfl)
        · replace h := if_f hc h
          refine lv_aload_n hx hb d_SlippedStreamsModel_slice_39 rfl (lv_at hl 0 rfl) ?_
          refine mg_0_kinds hx hb hts hin_SlippedStreamsModel hown hK hP (hts _ k_814) (fun _ h9 => h9) d_SlippedStreamsModel_slice_40 ?_
          refine lv_iload_n hx hb d_SlippedStreamsModel_slice_43 rfl (lv_at hl 2 rfl) ?_
          obtain ⟨hi, h⟩ := gin_e h
          refine ml_0 hx hb hK hP hi d_SlippedStreamsModel_slice_44 ?_
          obtain ⟨r2, z2, hc2, h⟩ := obn_e h
          refine q_goi (va_runS (As := [.int (z0.2 0 y2.toNatClampNeg)]) (rest := []) ⟨hx, hb, hml, hown, hts⟩ (c_m_reckons l dC dI cI cZ ad z0 (z0.2 0 y2.toNatClampNeg) _ hc2 _) (va_cwS 1 hts (q_goodL _ (q_l3 k_906 k_907 k_64) k_908) rfl rfl rfl (by decide +kernel) ⟨Nat.le_of_ble_eq_true rfl, Nat.le_of_ble_eq_true rfl⟩) (q_preS qok hKK hP hD) rfl rfl hl.1 rfl (lv_room (Nat.le_of_ble_eq_true rfl)) d_SlippedStreamsModel_slice_45 ⟨Nat.le_refl _, Nat.le_refl _⟩) hD hS hA (fun H locs hP hD hS => ?_)
          refine lv_if_eq (tgt := 69) hx hb d_SlippedStreamsModel_slice_48 (by decide) (fun hc => ?_) (fun hc => ?_)
          · replace h := if_t hc h
            exact jp_69 z2 y1 y2 0 _ _ _ h hP hD hS (lv_sub hl [0, 1, 2] rfl)
          · replace h := if_f hc h
            refine lv_aload_n hx hb d_SlippedStreamsModel_slice_51 rfl (lv_at hl 0 rfl) ?_
            refine mg_0_isAddress hx hb hts hin_SlippedStreamsModel hown hK hP (hts _ k_820) (fun _ h9 => h9) d_SlippedStreamsModel_slice_52 ?_
            refine lv_aload_n hx hb d_SlippedStreamsModel_slice_55 rfl (lv_at hl 0 rfl) ?_
            refine mg_0_as hx hb hts hin_SlippedStreamsModel hown hK hP (hts _ k_815) (fun _ h9 => h9) d_SlippedStreamsModel_slice_56 ?_
            refine lv_iload_n hx hb d_SlippedStreamsModel_slice_59 rfl (lv_at hl 2 rfl) ?_
            obtain ⟨hi, h⟩ := gin_e h
            refine ml_1 hx hb hK hP hi d_SlippedStreamsModel_slice_60 ?_
            obtain ⟨hi, h⟩ := gin_e h
            refine ml_4 hx hb hK hP hi d_SlippedStreamsModel_slice_61 ?_
            refine lv_if_eq (tgt := 69) hx hb d_SlippedStreamsModel_slice_62 (by decide) (fun hc => ?_) (fun hc => ?_)
            · replace h := if_t hc h
              exact jp_69 z2 y1 y2 0 _ _ _ h hP hD hS (lv_sub hl [0, 1, 2] rfl)
            · replace h := if_f hc h
              refine lv_iconst (v := 1) hx hb d_SlippedStreamsModel_slice_65 (by decide) ?_
              refine lv_goto (tgt := 70) hx hb d_SlippedStreamsModel_slice_66 (by decide) ?_
              exact jp_70 z2 y1 y2 1 _ _ _ h hP hD hS (lv_sub hl [0, 1, 2] rfl)
      · intro z0 y1 y2 y3 H locs ls h hP hD hS hl
        replace h : m_slice_g69 (m_slice_f n) z0 y1 y2 y3 = some R := h
        unfold m_slice_g69 at h
        refine lv_iconst (v := 0) hx hb d_SlippedStreamsModel_slice_69 (by decide) ?_
        exact jp_70 z0 y1 y2 0 _ _ _ h hP hD hS (lv_sub hl [0, 1, 2] rfl)
      · intro z0 y1 y2 y3 H locs ls h hP hD hS hl
        replace h : m_slice_g70 (m_slice_f n) z0 y1 y2 y3 = some R := h
        unfold m_slice_g70 at h
        refine lv_istore_n (lv' := [(3, .int y3), (0, .ref (ad 0)), (1, .int y1), (2, .int y2)]) hx hb d_SlippedStreamsModel_slice_70 rfl hl (by decide) rfl (fun ls hl => ?_)
        refine lv_iload_n hx hb d_SlippedStreamsModel_slice_71 rfl (lv_at hl 0 rfl) ?_
        refine lv_if_ne (tgt := 95) hx hb d_SlippedStreamsModel_slice_72 (by decide) (fun hc => ?_) (fun hc => ?_)
        · replace h := if_f hc h
          exact jp_95 z0 y1 y2 y3 _ _ _ h hP hD hS (lv_sub hl [1, 2, 3, 0] rfl)
        · replace h := if_t hc h
          refine lv_aload_n hx hb d_SlippedStreamsModel_slice_75 rfl (lv_at hl 1 rfl) ?_
          refine mg_0_kinds hx hb hts hin_SlippedStreamsModel hown hK hP (hts _ k_814) (fun _ h9 => h9) d_SlippedStreamsModel_slice_76 ?_
          refine lv_iload_n hx hb d_SlippedStreamsModel_slice_79 rfl (lv_at hl 3 rfl) ?_
          obtain ⟨hi, h⟩ := gin_e h
          refine ml_0 hx hb hK hP hi d_SlippedStreamsModel_slice_80 ?_
          refine lv_iconst (v := 4) hx hb d_SlippedStreamsModel_slice_81 (by decide) ?_
          refine lv_icmp_eq (tgt := 95) hx hb d_SlippedStreamsModel_slice_82 (by decide) (fun hc => ?_) (fun hc => ?_)
          · replace h := if_t hc h
            exact jp_95 z0 y1 y2 y3 _ _ _ h hP hD hS (lv_sub hl [1, 2, 3, 0] rfl)
          · replace h := if_f hc h
            refine lv_aload_n hx hb d_SlippedStreamsModel_slice_85 rfl (lv_at hl 1 rfl) ?_
            refine mg_0_kinds hx hb hts hin_SlippedStreamsModel hown hK hP (hts _ k_814) (fun _ h9 => h9) d_SlippedStreamsModel_slice_86 ?_
            refine lv_iload_n hx hb d_SlippedStreamsModel_slice_89 rfl (lv_at hl 3 rfl) ?_
            obtain ⟨hi, h⟩ := gin_e h
            refine ml_0 hx hb hK hP hi d_SlippedStreamsModel_slice_90 ?_
            refine lv_iconst (v := 5) hx hb d_SlippedStreamsModel_slice_91 (by decide) ?_
            refine lv_icmp_ne (tgt := 107) hx hb d_SlippedStreamsModel_slice_92 (by decide) (fun hc => ?_) (fun hc => ?_)
            · replace h := if_f hc h
              exact jp_107 z0 y1 y2 y3 _ _ _ h hP hD hS (lv_sub hl [1, 2, 3, 0] rfl)
            · replace h := if_t hc h
              exact jp_95 z0 y1 y2 y3 _ _ _ h hP hD hS (lv_sub hl [1, 2, 3, 0] rfl)
      · intro z0 y1 y2 y3 H locs ls h hP hD hS hl
        replace h : m_slice_g95 (m_slice_f n) z0 y1 y2 y3 = some R := h
        unfold m_slice_g95 at h
        refine lv_aload_n hx hb d_SlippedStreamsModel_slice_95 rfl (lv_at hl 0 rfl) ?_
        refine mg_0_isAddress hx hb hts hin_SlippedStreamsModel hown hK hP (hts _ k_820) (fun _ h9 => h9) d_SlippedStreamsModel_slice_96 ?_
        refine lv_aload_n hx hb d_SlippedStreamsModel_slice_99 rfl (lv_at hl 0 rfl) ?_
        refine mg_0_bs hx hb hts hin_SlippedStreamsModel hown hK hP (hts _ k_816) (fun _ h9 => h9) d_SlippedStreamsModel_slice_100 ?_
        refine lv_iload_n hx hb d_SlippedStreamsModel_slice_103 rfl (lv_at hl 2 rfl) ?_
        obtain ⟨hi, h⟩ := gin_e h
        refine ml_2 hx hb hK hP hi d_SlippedStreamsModel_slice_104 ?_
        refine lv_iconst (v := 1) hx hb d_SlippedStreamsModel_slice_105 (by decide) ?_
        obtain ⟨hi, h⟩ := gin_e h
        obtain ⟨hv, h⟩ := gib_e h
        obtain ⟨z3, e3, h⟩ := bnd_e h
        refine ms_4 hx hb hK hP hD hS hi hv d_SlippedStreamsModel_slice_106 e3 (fun H locs hP hD hS => ?_)
        exact jp_107 z3 y1 y2 y3 _ _ _ h hP hD hS (lv_sub hl [0, 1, 2, 3] rfl)
      · intro z0 y1 y2 y3 H locs ls h hP hD hS hl
        replace h : m_slice_g107 (m_slice_f n) z0 y1 y2 y3 = some R := h
        unfold m_slice_g107 at h
        refine lv_iload_n hx hb d_SlippedStreamsModel_slice_107 rfl (lv_at hl 3 rfl) ?_
        refine lv_if_eq (tgt := 123) hx hb d_SlippedStreamsModel_slice_108 (by decide) (fun hc => ?_) (fun hc => ?_)
        · replace h := if_t hc h
          exact jp_123 z0 y1 y2 y3 _ _ _ h hP hD hS (lv_sub hl [0, 1, 2, 3] rfl)
        · replace h := if_f hc h
          refine lv_aload_n hx hb d_SlippedStreamsModel_slice_111 rfl (lv_at hl 0 rfl) ?_
          refine mg_0_isAddress hx hb hts hin_SlippedStreamsModel hown hK hP (hts _ k_820) (fun _ h9 => h9) d_SlippedStreamsModel_slice_112 ?_
          refine lv_aload_n hx hb d_SlippedStreamsModel_slice_115 rfl (lv_at hl 0 rfl) ?_
          refine mg_0_cs hx hb hts hin_SlippedStreamsModel hown hK hP (hts _ k_817) (fun _ h9 => h9) d_SlippedStreamsModel_slice_116 ?_
          refine lv_iload_n hx hb d_SlippedStreamsModel_slice_119 rfl (lv_at hl 2 rfl) ?_
          obtain ⟨hi, h⟩ := gin_e h
          refine ml_3 hx hb hK hP hi d_SlippedStreamsModel_slice_120 ?_
          refine lv_iconst (v := 1) hx hb d_SlippedStreamsModel_slice_121 (by decide) ?_
          obtain ⟨hi, h⟩ := gin_e h
          obtain ⟨hv, h⟩ := gib_e h
          obtain ⟨z4, e4, h⟩ := bnd_e h
          refine ms_4 hx hb hK hP hD hS hi hv d_SlippedStreamsModel_slice_122 e4 (fun H locs hP hD hS => ?_)
          exact jp_123 z4 y1 y2 y3 _ _ _ h hP hD hS (lv_sub hl [0, 1, 2, 3] rfl)
      · intro z0 y1 y2 y3 H locs ls h hP hD hS hl
        replace h : m_slice_g123 (m_slice_f n) z0 y1 y2 y3 = some R := h
        unfold m_slice_g123 at h
        refine lv_iinc (k := 2) (v := y2 + 1) (lv' := [(2, .int (y2 + 1)), (0, .ref (ad 0)), (1, .int y1), (3, .int y3)]) hx hb d_SlippedStreamsModel_slice_123 hl rfl rfl (by decide) rfl (fun ls hl => ?_)
        refine lv_goto (tgt := 31) hx hb d_SlippedStreamsModel_slice_126 (by decide) ?_
        exact jp_31 z0 y1 (y2 + 1) 0 _ _ _ h hP hD hS (lv_sub hl [1, 2, 0] rfl)
  exact (key 4000).1 z0 0 0 0 _ _ _ h hP hD hS (lv_sub hl [0] rfl)
def m_isBranch (z0 : ST) (x1 : Int32) : OR := gin x1 24 (if (z0.2 0 x1.toNatClampNeg) = 6 then (gib 1 (some (1, z0))) else (gin x1 24 (if (z0.2 0 x1.toNatClampNeg) = 7 then (gib 1 (some (1, z0))) else (gib 0 (some (0, z0))))))
set_option maxRecDepth 100000 in
set_option maxHeartbeats 4000000 in
theorem c_m_isBranch (l : Launch) (dC : Nat → ClassId) (dI : Nat → Nat → Nat) (cI cZ : ClassId) (ad : Nat → Nat) (z0 : ST) (x1 : Int32) (R : Int32 × ST) (h : m_isBranch z0 x1 = some R) : qMi l y_SlippedStreamsModel_isBranch w_SlippedStreamsModel_isBranch 0 0 (KX dC dI cI cZ) (dC, dI) q_cl (wM cI cZ ad) [.ref (ad 0), .int x1] z0 R := by
  intro sz
  refine Met.ofW (cc := b_SlippedStreamsModel_isBranch) (maxL := 2) (ret := (some .boolean)) (by decide) rfl ?_
  intro p e s m args below meth c s₁ B hml hv
  obtain ⟨rfl, hsz, hP, hKK, hD0⟩ := hv
  have hx := B.exec
  have hb := B.bytes
  have hr := B.returns
  have hts : ∀ w ∈ q_big, w.before _ s = true := fun w h => atoms_spec (ws := w_SlippedStreamsModel_isBranch) B.pre w (List.mem_cons_of_mem _ h)
  have hown : s.vm.findClass "SlippedStreamsModel" = some m.cls := findClass_of_methodNamed B.named
  have hlocks := B.notSynchronized
  subst hsz
  have hD := hD0.self (sz := s.heap.size)
  generalize hAe : va_A (wM cI cZ ad z0) s.heap.size = A at hD ⊢
  have hA : ∀ q : Nat, s.heap.size ≤ q → A q := fun q h => by rw [← hAe]; exact Or.inr h
  have hS : va_S A s.heap s.heap [] := va_S.rf
  have hK := hKK.1
  have hl := lv_entry ([.ref (ad 0), .int x1]) (n := 2) (Nat.le_of_ble_eq_true rfl)
  rw [lg_entry_eq]
  generalize (lg_sl ([.ref (ad 0), .int x1]) ++ List.replicate (2 - (lg_sl ([.ref (ad 0), .int x1])).length) Slot.unset).toArray = ls at hl ⊢
  have hl : lv_has ls 2 [(0, .ref (ad 0)), (1, .int x1)] := hl
  unfold m_isBranch at h
  refine lv_aload_n hx hb d_SlippedStreamsModel_isBranch_0 rfl (lv_at hl 0 rfl) ?_
  refine mg_0_kinds hx hb hts hin_SlippedStreamsModel hown hK hP (hts _ k_814) (fun _ h9 => h9) d_SlippedStreamsModel_isBranch_1 ?_
  refine lv_iload_n hx hb d_SlippedStreamsModel_isBranch_4 rfl (lv_at hl 1 rfl) ?_
  obtain ⟨hi, h⟩ := gin_e h
  refine ml_0 hx hb hK hP hi d_SlippedStreamsModel_isBranch_5 ?_
  refine lv_bipush (v := 6) hx hb d_SlippedStreamsModel_isBranch_6 (by decide) ?_
  refine lv_icmp_eq (tgt := 22) hx hb d_SlippedStreamsModel_isBranch_8 (by decide) (fun hc => ?_) (fun hc => ?_)
  · replace h := if_t hc h
    refine lv_iconst (v := 1) hx hb d_SlippedStreamsModel_isBranch_22 (by decide) ?_
    refine lv_goto (tgt := 27) hx hb d_SlippedStreamsModel_isBranch_23 (by decide) ?_
    exact q_zret hx hb hr hlocks h hP hD hS d_SlippedStreamsModel_isBranch_27
  · replace h := if_f hc h
    refine lv_aload_n hx hb d_SlippedStreamsModel_isBranch_11 rfl (lv_at hl 0 rfl) ?_
    refine mg_0_kinds hx hb hts hin_SlippedStreamsModel hown hK hP (hts _ k_814) (fun _ h9 => h9) d_SlippedStreamsModel_isBranch_12 ?_
    refine lv_iload_n hx hb d_SlippedStreamsModel_isBranch_15 rfl (lv_at hl 1 rfl) ?_
    obtain ⟨hi, h⟩ := gin_e h
    refine ml_0 hx hb hK hP hi d_SlippedStreamsModel_isBranch_16 ?_
    refine lv_bipush (v := 7) hx hb d_SlippedStreamsModel_isBranch_17 (by decide) ?_
    refine lv_icmp_ne (tgt := 26) hx hb d_SlippedStreamsModel_isBranch_19 (by decide) (fun hc => ?_) (fun hc => ?_)
    · replace h := if_f hc h
      refine lv_iconst (v := 0) hx hb d_SlippedStreamsModel_isBranch_26 (by decide) ?_
      exact q_zret hx hb hr hlocks h hP hD hS d_SlippedStreamsModel_isBranch_27
    · replace h := if_t hc h
      refine lv_iconst (v := 1) hx hb d_SlippedStreamsModel_isBranch_22 (by decide) ?_
      refine lv_goto (tgt := 27) hx hb d_SlippedStreamsModel_isBranch_23 (by decide) ?_
      exact q_zret hx hb hr hlocks h hP hD hS d_SlippedStreamsModel_isBranch_27
def m_belongs_26 (z0 : ST) (y1 y2 : Int32) : OR := gin y1 24 (gin (z0.2 1 y1.toNatClampNeg) 8 (if (z0.2 4 (z0.2 1 y1.toNatClampNeg).toNatClampNeg) = 0 then (some (1, z0)) else (gin y1 24 (gin (z0.2 2 y1.toNatClampNeg) 8 (if (z0.2 4 (z0.2 2 y1.toNatClampNeg).toNatClampNeg) = 0 then (some (1, z0)) else (some (0, z0)))))))
def m_belongs (z0 : ST) (x1 : Int32) : OR := gin x1 24 (if (z0.2 0 x1.toNatClampNeg) = 5 then (some (0, z0)) else (if (z0.2 0 x1.toNatClampNeg) = 6 then (m_belongs_26 z0 x1 (z0.2 0 x1.toNatClampNeg)) else (if (z0.2 0 x1.toNatClampNeg) = 7 then (m_belongs_26 z0 x1 (z0.2 0 x1.toNatClampNeg)) else (if (z0.2 0 x1.toNatClampNeg) = 8 then (some (1, z0)) else (gin x1 24 (gin (z0.2 1 x1.toNatClampNeg) 8 (if (z0.2 4 (z0.2 1 x1.toNatClampNeg).toNatClampNeg) = 0 then (some (1, z0)) else (some (0, z0)))))))))
set_option maxRecDepth 100000 in
set_option maxHeartbeats 4000000 in
theorem c_m_belongs (l : Launch) (dC : Nat → ClassId) (dI : Nat → Nat → Nat) (cI cZ : ClassId) (ad : Nat → Nat) (z0 : ST) (x1 : Int32) (R : Int32 × ST) (h : m_belongs z0 x1 = some R) : qMi l y_SlippedStreamsModel_belongs w_SlippedStreamsModel_belongs 0 0 (KX dC dI cI cZ) (dC, dI) q_cl (wM cI cZ ad) [.ref (ad 0), .int x1] z0 R := by
  intro sz
  refine Met.ofW (cc := b_SlippedStreamsModel_belongs) (maxL := 3) (ret := (some .int)) (by decide) rfl ?_
  intro p e s m args below meth c s₁ B hml hv
  obtain ⟨rfl, hsz, hP, hKK, hD0⟩ := hv
  have hx := B.exec
  have hb := B.bytes
  have hr := B.returns
  have hts : ∀ w ∈ q_big, w.before _ s = true := fun w h => atoms_spec (ws := w_SlippedStreamsModel_belongs) B.pre w (List.mem_cons_of_mem _ h)
  have hown : s.vm.findClass "SlippedStreamsModel" = some m.cls := findClass_of_methodNamed B.named
  have hlocks := B.notSynchronized
  subst hsz
  have hD := hD0.self (sz := s.heap.size)
  generalize hAe : va_A (wM cI cZ ad z0) s.heap.size = A at hD ⊢
  have hA : ∀ q : Nat, s.heap.size ≤ q → A q := fun q h => by rw [← hAe]; exact Or.inr h
  have hS : va_S A s.heap s.heap [] := va_S.rf
  have hK := hKK.1
  have hl := lv_entry ([.ref (ad 0), .int x1]) (n := 3) (Nat.le_of_ble_eq_true rfl)
  rw [lg_entry_eq]
  generalize (lg_sl ([.ref (ad 0), .int x1]) ++ List.replicate (3 - (lg_sl ([.ref (ad 0), .int x1])).length) Slot.unset).toArray = ls at hl ⊢
  have hl : lv_has ls 3 [(0, .ref (ad 0)), (1, .int x1)] := hl
  have jp_26 : ∀ (z0 : ST) (y1 y2 : Int32) (H : Heap) (locs : List Loc) (ls : Array Slot), m_belongs_26 z0 y1 y2 = some R → va_P (dC, dI) q_cl (wM cI cZ ad z0) H → va_D A (wM cI cZ ad z0) → va_S A s.heap H locs → lv_has ls 3 [(0, .ref (ad 0)), (1, .int y1), (2, .int y2)] → qWi p l e w_SlippedStreamsModel_belongs 0 0 s m [.ref (ad 0), .int x1] below meth c (dC, dI) q_cl (wM cI cZ ad) A R H locs (F0 m 26 ls []) := by
    intro z0 y1 y2 H locs ls h hP hD hS hl
    unfold m_belongs_26 at h
    refine lv_aload_n hx hb d_SlippedStreamsModel_belongs_26 rfl (lv_at hl 0 rfl) ?_
    refine mg_0_isAddress hx hb hts hin_SlippedStreamsModel hown hK hP (hts _ k_820) (fun _ h9 => h9) d_SlippedStreamsModel_belongs_27 ?_
    refine lv_aload_n hx hb d_SlippedStreamsModel_belongs_30 rfl (lv_at hl 0 rfl) ?_
    refine mg_0_as hx hb hts hin_SlippedStreamsModel hown hK hP (hts _ k_815) (fun _ h9 => h9) d_SlippedStreamsModel_belongs_31 ?_
    refine lv_iload_n hx hb d_SlippedStreamsModel_belongs_34 rfl (lv_at hl 1 rfl) ?_
    obtain ⟨hi, h⟩ := gin_e h
    refine ml_1 hx hb hK hP hi d_SlippedStreamsModel_belongs_35 ?_
    obtain ⟨hi, h⟩ := gin_e h
    refine ml_4 hx hb hK hP hi d_SlippedStreamsModel_belongs_36 ?_
    refine lv_if_eq (tgt := 58) hx hb d_SlippedStreamsModel_belongs_37 (by decide) (fun hc => ?_) (fun hc => ?_)
    · replace h := if_t hc h
      refine lv_iconst (v := 1) hx hb d_SlippedStreamsModel_belongs_58 (by decide) ?_
      exact q_iret hx hb hr hlocks h hP hD hS d_SlippedStreamsModel_belongs_59
    · replace h := if_f hc h
      refine lv_aload_n hx hb d_SlippedStreamsModel_belongs_40 rfl (lv_at hl 0 rfl) ?_
      refine mg_0_isAddress hx hb hts hin_SlippedStreamsModel hown hK hP (hts _ k_820) (fun _ h9 => h9) d_SlippedStreamsModel_belongs_41 ?_
      refine lv_aload_n hx hb d_SlippedStreamsModel_belongs_44 rfl (lv_at hl 0 rfl) ?_
      refine mg_0_bs hx hb hts hin_SlippedStreamsModel hown hK hP (hts _ k_816) (fun _ h9 => h9) d_SlippedStreamsModel_belongs_45 ?_
      refine lv_iload_n hx hb d_SlippedStreamsModel_belongs_48 rfl (lv_at hl 1 rfl) ?_
      obtain ⟨hi, h⟩ := gin_e h
      refine ml_2 hx hb hK hP hi d_SlippedStreamsModel_belongs_49 ?_
      obtain ⟨hi, h⟩ := gin_e h
      refine ml_4 hx hb hK hP hi d_SlippedStreamsModel_belongs_50 ?_
      refine lv_if_eq (tgt := 58) hx hb d_SlippedStreamsModel_belongs_51 (by decide) (fun hc => ?_) (fun hc => ?_)
      · replace h := if_t hc h
        refine lv_iconst (v := 1) hx hb d_SlippedStreamsModel_belongs_58 (by decide) ?_
        exact q_iret hx hb hr hlocks h hP hD hS d_SlippedStreamsModel_belongs_59
      · replace h := if_f hc h
        refine lv_iconst (v := 0) hx hb d_SlippedStreamsModel_belongs_54 (by decide) ?_
        refine lv_goto (tgt := 59) hx hb d_SlippedStreamsModel_belongs_55 (by decide) ?_
        exact q_iret hx hb hr hlocks h hP hD hS d_SlippedStreamsModel_belongs_59
  unfold m_belongs at h
  refine lv_aload_n hx hb d_SlippedStreamsModel_belongs_0 rfl (lv_at hl 0 rfl) ?_
  refine mg_0_kinds hx hb hts hin_SlippedStreamsModel hown hK hP (hts _ k_814) (fun _ h9 => h9) d_SlippedStreamsModel_belongs_1 ?_
  refine lv_iload_n hx hb d_SlippedStreamsModel_belongs_4 rfl (lv_at hl 1 rfl) ?_
  obtain ⟨hi, h⟩ := gin_e h
  refine ml_0 hx hb hK hP hi d_SlippedStreamsModel_belongs_5 ?_
  refine lv_istore_n (lv' := [(2, .int (z0.2 0 x1.toNatClampNeg)), (0, .ref (ad 0)), (1, .int x1)]) hx hb d_SlippedStreamsModel_belongs_6 rfl hl (by decide) rfl (fun ls hl => ?_)
  refine lv_iload_n hx hb d_SlippedStreamsModel_belongs_7 rfl (lv_at hl 0 rfl) ?_
  refine lv_iconst (v := 5) hx hb d_SlippedStreamsModel_belongs_8 (by decide) ?_
  refine lv_icmp_ne (tgt := 14) hx hb d_SlippedStreamsModel_belongs_9 (by decide) (fun hc => ?_) (fun hc => ?_)
  · replace h := if_f hc h
    refine lv_iload_n hx hb d_SlippedStreamsModel_belongs_14 rfl (lv_at hl 0 rfl) ?_
    refine lv_bipush (v := 6) hx hb d_SlippedStreamsModel_belongs_15 (by decide) ?_
    refine lv_icmp_eq (tgt := 26) hx hb d_SlippedStreamsModel_belongs_17 (by decide) (fun hc => ?_) (fun hc => ?_)
    · replace h := if_t hc h
      exact jp_26 z0 x1 (z0.2 0 x1.toNatClampNeg) _ _ _ h hP hD hS (lv_sub hl [1, 2, 0] rfl)
    · replace h := if_f hc h
      refine lv_iload_n hx hb d_SlippedStreamsModel_belongs_20 rfl (lv_at hl 0 rfl) ?_
      refine lv_bipush (v := 7) hx hb d_SlippedStreamsModel_belongs_21 (by decide) ?_
      refine lv_icmp_ne (tgt := 60) hx hb d_SlippedStreamsModel_belongs_23 (by decide) (fun hc => ?_) (fun hc => ?_)
      · replace h := if_f hc h
        refine lv_iload_n hx hb d_SlippedStreamsModel_belongs_60 rfl (lv_at hl 0 rfl) ?_
        refine lv_bipush (v := 8) hx hb d_SlippedStreamsModel_belongs_61 (by decide) ?_
        refine lv_icmp_eq (tgt := 84) hx hb d_SlippedStreamsModel_belongs_63 (by decide) (fun hc => ?_) (fun hc => ?_)
        · replace h := if_t hc h
          refine lv_iconst (v := 1) hx hb d_SlippedStreamsModel_belongs_84 (by decide) ?_
          exact q_iret hx hb hr hlocks h hP hD hS d_SlippedStreamsModel_belongs_85
        · replace h := if_f hc h
          refine lv_aload_n hx hb d_SlippedStreamsModel_belongs_66 rfl (lv_at hl 1 rfl) ?_
          refine mg_0_isAddress hx hb hts hin_SlippedStreamsModel hown hK hP (hts _ k_820) (fun _ h9 => h9) d_SlippedStreamsModel_belongs_67 ?_
          refine lv_aload_n hx hb d_SlippedStreamsModel_belongs_70 rfl (lv_at hl 1 rfl) ?_
          refine mg_0_as hx hb hts hin_SlippedStreamsModel hown hK hP (hts _ k_815) (fun _ h9 => h9) d_SlippedStreamsModel_belongs_71 ?_
          refine lv_iload_n hx hb d_SlippedStreamsModel_belongs_74 rfl (lv_at hl 2 rfl) ?_
          obtain ⟨hi, h⟩ := gin_e h
          refine ml_1 hx hb hK hP hi d_SlippedStreamsModel_belongs_75 ?_
          obtain ⟨hi, h⟩ := gin_e h
          refine ml_4 hx hb hK hP hi d_SlippedStreamsModel_belongs_76 ?_
          refine lv_if_eq (tgt := 84) hx hb d_SlippedStreamsModel_belongs_77 (by decide) (fun hc => ?_) (fun hc => ?_)
          · replace h := if_t hc h
            refine lv_iconst (v := 1) hx hb d_SlippedStreamsModel_belongs_84 (by decide) ?_
            exact q_iret hx hb hr hlocks h hP hD hS d_SlippedStreamsModel_belongs_85
          · replace h := if_f hc h
            refine lv_iconst (v := 0) hx hb d_SlippedStreamsModel_belongs_80 (by decide) ?_
            refine lv_goto (tgt := 85) hx hb d_SlippedStreamsModel_belongs_81 (by decide) ?_
            exact q_iret hx hb hr hlocks h hP hD hS d_SlippedStreamsModel_belongs_85
      · replace h := if_t hc h
        exact jp_26 z0 x1 (z0.2 0 x1.toNatClampNeg) _ _ _ h hP hD hS (lv_sub hl [1, 2, 0] rfl)
  · replace h := if_t hc h
    refine lv_iconst (v := 0) hx hb d_SlippedStreamsModel_belongs_12 (by decide) ?_
    exact q_iret hx hb hr hlocks h hP hD hS d_SlippedStreamsModel_belongs_13
def m_reads_46 (z0 : ST) (y1 y2 y3 : Int32) : OR := if y2 = 0 then (gin y1 24 (some (z0.2 1 y1.toNatClampNeg, z0))) else (gin y1 24 (some (z0.2 2 y1.toNatClampNeg, z0)))
def m_reads (z0 : ST) (x1 x2 : Int32) : OR := gin x1 24 (obn (m_reckons z0 (z0.2 0 x1.toNatClampNeg)) (fun r1 z1 => if r1 = 0 then (if (z0.2 0 x1.toNatClampNeg) = 6 then (m_reads_46 z1 x1 x2 (z0.2 0 x1.toNatClampNeg)) else (if (z0.2 0 x1.toNatClampNeg) = 7 then (m_reads_46 z1 x1 x2 (z0.2 0 x1.toNatClampNeg)) else (if (z0.2 0 x1.toNatClampNeg) = 8 then (if x2 = 0 then (gin x1 24 (some (z1.2 1 x1.toNatClampNeg, z1))) else (some ((-1), z1))) else (some ((-1), z1))))) else (if x2 = 0 then (gin x1 24 (some (z1.2 2 x1.toNatClampNeg, z1))) else (gin x1 24 (some (z1.2 3 x1.toNatClampNeg, z1))))))
set_option maxRecDepth 100000 in
set_option maxHeartbeats 4000000 in
theorem c_m_reads (l : Launch) (dC : Nat → ClassId) (dI : Nat → Nat → Nat) (cI cZ : ClassId) (ad : Nat → Nat) (z0 : ST) (x1 x2 : Int32) (R : Int32 × ST) (h : m_reads z0 x1 x2 = some R) : qMi l y_SlippedStreamsModel_reads w_SlippedStreamsModel_reads 1 20 (KX dC dI cI cZ) (dC, dI) q_cl (wM cI cZ ad) [.ref (ad 0), .int x1, .int x2] z0 R := by
  intro sz
  refine Met.ofW (cc := b_SlippedStreamsModel_reads) (maxL := 4) (ret := (some .int)) (by decide) rfl ?_
  intro p e s m args below meth c s₁ B hml hv
  obtain ⟨rfl, hsz, hP, hKK, hD0⟩ := hv
  have hx := B.exec
  have hb := B.bytes
  have hr := B.returns
  have hts : ∀ w ∈ q_big, w.before _ s = true := fun w h => atoms_spec (ws := w_SlippedStreamsModel_reads) B.pre w (List.mem_cons_of_mem _ h)
  have hown : s.vm.findClass "SlippedStreamsModel" = some m.cls := findClass_of_methodNamed B.named
  have hlocks := B.notSynchronized
  subst hsz
  have hD := hD0.self (sz := s.heap.size)
  generalize hAe : va_A (wM cI cZ ad z0) s.heap.size = A at hD ⊢
  have hA : ∀ q : Nat, s.heap.size ≤ q → A q := fun q h => by rw [← hAe]; exact Or.inr h
  have hS : va_S A s.heap s.heap [] := va_S.rf
  have hK := hKK.1
  have hl := lv_entry ([.ref (ad 0), .int x1, .int x2]) (n := 4) (Nat.le_of_ble_eq_true rfl)
  rw [lg_entry_eq]
  generalize (lg_sl ([.ref (ad 0), .int x1, .int x2]) ++ List.replicate (4 - (lg_sl ([.ref (ad 0), .int x1, .int x2])).length) Slot.unset).toArray = ls at hl ⊢
  have hl : lv_has ls 4 [(0, .ref (ad 0)), (1, .int x1), (2, .int x2)] := hl
  have jp_46 : ∀ (z0 : ST) (y1 y2 y3 : Int32) (H : Heap) (locs : List Loc) (ls : Array Slot), m_reads_46 z0 y1 y2 y3 = some R → va_P (dC, dI) q_cl (wM cI cZ ad z0) H → va_D A (wM cI cZ ad z0) → va_S A s.heap H locs → lv_has ls 4 [(0, .ref (ad 0)), (1, .int y1), (2, .int y2), (3, .int y3)] → qWi p l e w_SlippedStreamsModel_reads 1 20 s m [.ref (ad 0), .int x1, .int x2] below meth c (dC, dI) q_cl (wM cI cZ ad) A R H locs (F0 m 46 ls []) := by
    intro z0 y1 y2 y3 H locs ls h hP hD hS hl
    unfold m_reads_46 at h
    refine lv_iload_n hx hb d_SlippedStreamsModel_reads_46 rfl (lv_at hl 2 rfl) ?_
    refine lv_if_ne (tgt := 59) hx hb d_SlippedStreamsModel_reads_47 (by decide) (fun hc => ?_) (fun hc => ?_)
    · replace h := if_f hc h
      refine lv_aload_n hx hb d_SlippedStreamsModel_reads_59 rfl (lv_at hl 0 rfl) ?_
      refine mg_0_bs hx hb hts hin_SlippedStreamsModel hown hK hP (hts _ k_816) (fun _ h9 => h9) d_SlippedStreamsModel_reads_60 ?_
      refine lv_iload_n hx hb d_SlippedStreamsModel_reads_63 rfl (lv_at hl 1 rfl) ?_
      obtain ⟨hi, h⟩ := gin_e h
      refine ml_2 hx hb hK hP hi d_SlippedStreamsModel_reads_64 ?_
      exact q_iret hx hb hr hlocks h hP hD hS d_SlippedStreamsModel_reads_65
    · replace h := if_t hc h
      refine lv_aload_n hx hb d_SlippedStreamsModel_reads_50 rfl (lv_at hl 0 rfl) ?_
      refine mg_0_as hx hb hts hin_SlippedStreamsModel hown hK hP (hts _ k_815) (fun _ h9 => h9) d_SlippedStreamsModel_reads_51 ?_
      refine lv_iload_n hx hb d_SlippedStreamsModel_reads_54 rfl (lv_at hl 1 rfl) ?_
      obtain ⟨hi, h⟩ := gin_e h
      refine ml_1 hx hb hK hP hi d_SlippedStreamsModel_reads_55 ?_
      refine lv_goto (tgt := 65) hx hb d_SlippedStreamsModel_reads_56 (by decide) ?_
      exact q_iret hx hb hr hlocks h hP hD hS d_SlippedStreamsModel_reads_65
  unfold m_reads at h
  refine lv_aload_n hx hb d_SlippedStreamsModel_reads_0 rfl (lv_at hl 0 rfl) ?_
  refine mg_0_kinds hx hb hts hin_SlippedStreamsModel hown hK hP (hts _ k_814) (fun _ h9 => h9) d_SlippedStreamsModel_reads_1 ?_
  refine lv_iload_n hx hb d_SlippedStreamsModel_reads_4 rfl (lv_at hl 1 rfl) ?_
  obtain ⟨hi, h⟩ := gin_e h
  refine ml_0 hx hb hK hP hi d_SlippedStreamsModel_reads_5 ?_
  refine lv_istore_n (lv' := [(3, .int (z0.2 0 x1.toNatClampNeg)), (0, .ref (ad 0)), (1, .int x1), (2, .int x2)]) hx hb d_SlippedStreamsModel_reads_6 rfl hl (by decide) rfl (fun ls hl => ?_)
  refine lv_iload_n hx hb d_SlippedStreamsModel_reads_7 rfl (lv_at hl 0 rfl) ?_
  obtain ⟨r1, z1, hc1, h⟩ := obn_e h
  refine q_goi (va_runS (As := [.int (z0.2 0 x1.toNatClampNeg)]) (rest := []) ⟨hx, hb, hml, hown, hts⟩ (c_m_reckons l dC dI cI cZ ad z0 (z0.2 0 x1.toNatClampNeg) _ hc1 _) (va_cwS 1 hts (q_goodL _ (q_l3 k_906 k_907 k_64) k_908) rfl rfl rfl (by decide +kernel) ⟨Nat.le_of_ble_eq_true rfl, Nat.le_of_ble_eq_true rfl⟩) (q_preS qok hKK hP hD) rfl rfl hl.1 rfl (lv_room (Nat.le_of_ble_eq_true rfl)) d_SlippedStreamsModel_reads_8 ⟨Nat.le_refl _, Nat.le_refl _⟩) hD hS hA (fun H locs hP hD hS => ?_)
  refine lv_if_eq (tgt := 34) hx hb d_SlippedStreamsModel_reads_11 (by decide) (fun hc => ?_) (fun hc => ?_)
  · replace h := if_t hc h
    refine lv_iload_n hx hb d_SlippedStreamsModel_reads_34 rfl (lv_at hl 0 rfl) ?_
    refine lv_bipush (v := 6) hx hb d_SlippedStreamsModel_reads_35 (by decide) ?_
    refine lv_icmp_eq (tgt := 46) hx hb d_SlippedStreamsModel_reads_37 (by decide) (fun hc => ?_) (fun hc => ?_)
    · replace h := if_t hc h
      exact jp_46 z1 x1 x2 (z0.2 0 x1.toNatClampNeg) _ _ _ h hP hD hS (lv_sub hl [1, 2, 3, 0] rfl)
    · replace h := if_f hc h
      refine lv_iload_n hx hb d_SlippedStreamsModel_reads_40 rfl (lv_at hl 0 rfl) ?_
      refine lv_bipush (v := 7) hx hb d_SlippedStreamsModel_reads_41 (by decide) ?_
      refine lv_icmp_ne (tgt := 66) hx hb d_SlippedStreamsModel_reads_43 (by decide) (fun hc => ?_) (fun hc => ?_)
      · replace h := if_f hc h
        refine lv_iload_n hx hb d_SlippedStreamsModel_reads_66 rfl (lv_at hl 0 rfl) ?_
        refine lv_bipush (v := 8) hx hb d_SlippedStreamsModel_reads_67 (by decide) ?_
        refine lv_icmp_ne (tgt := 85) hx hb d_SlippedStreamsModel_reads_69 (by decide) (fun hc => ?_) (fun hc => ?_)
        · replace h := if_f hc h
          refine lv_iconst (v := (-1)) hx hb d_SlippedStreamsModel_reads_85 (by decide) ?_
          exact q_iret hx hb hr hlocks h hP hD hS d_SlippedStreamsModel_reads_86
        · replace h := if_t hc h
          refine lv_iload_n hx hb d_SlippedStreamsModel_reads_72 rfl (lv_at hl 3 rfl) ?_
          refine lv_if_ne (tgt := 85) hx hb d_SlippedStreamsModel_reads_73 (by decide) (fun hc => ?_) (fun hc => ?_)
          · replace h := if_f hc h
            refine lv_iconst (v := (-1)) hx hb d_SlippedStreamsModel_reads_85 (by decide) ?_
            exact q_iret hx hb hr hlocks h hP hD hS d_SlippedStreamsModel_reads_86
          · replace h := if_t hc h
            refine lv_aload_n hx hb d_SlippedStreamsModel_reads_76 rfl (lv_at hl 1 rfl) ?_
            refine mg_0_as hx hb hts hin_SlippedStreamsModel hown hK hP (hts _ k_815) (fun _ h9 => h9) d_SlippedStreamsModel_reads_77 ?_
            refine lv_iload_n hx hb d_SlippedStreamsModel_reads_80 rfl (lv_at hl 2 rfl) ?_
            obtain ⟨hi, h⟩ := gin_e h
            refine ml_1 hx hb hK hP hi d_SlippedStreamsModel_reads_81 ?_
            refine lv_goto (tgt := 86) hx hb d_SlippedStreamsModel_reads_82 (by decide) ?_
            exact q_iret hx hb hr hlocks h hP hD hS d_SlippedStreamsModel_reads_86
      · replace h := if_t hc h
        exact jp_46 z1 x1 x2 (z0.2 0 x1.toNatClampNeg) _ _ _ h hP hD hS (lv_sub hl [1, 2, 3, 0] rfl)
  · replace h := if_f hc h
    refine lv_iload_n hx hb d_SlippedStreamsModel_reads_14 rfl (lv_at hl 3 rfl) ?_
    refine lv_if_ne (tgt := 27) hx hb d_SlippedStreamsModel_reads_15 (by decide) (fun hc => ?_) (fun hc => ?_)
    · replace h := if_f hc h
      refine lv_aload_n hx hb d_SlippedStreamsModel_reads_27 rfl (lv_at hl 1 rfl) ?_
      refine mg_0_cs hx hb hts hin_SlippedStreamsModel hown hK hP (hts _ k_817) (fun _ h9 => h9) d_SlippedStreamsModel_reads_28 ?_
      refine lv_iload_n hx hb d_SlippedStreamsModel_reads_31 rfl (lv_at hl 2 rfl) ?_
      obtain ⟨hi, h⟩ := gin_e h
      refine ml_3 hx hb hK hP hi d_SlippedStreamsModel_reads_32 ?_
      exact q_iret hx hb hr hlocks h hP hD hS d_SlippedStreamsModel_reads_33
    · replace h := if_t hc h
      refine lv_aload_n hx hb d_SlippedStreamsModel_reads_18 rfl (lv_at hl 1 rfl) ?_
      refine mg_0_bs hx hb hts hin_SlippedStreamsModel hown hK hP (hts _ k_816) (fun _ h9 => h9) d_SlippedStreamsModel_reads_19 ?_
      refine lv_iload_n hx hb d_SlippedStreamsModel_reads_22 rfl (lv_at hl 2 rfl) ?_
      obtain ⟨hi, h⟩ := gin_e h
      refine ml_2 hx hb hK hP hi d_SlippedStreamsModel_reads_23 ?_
      refine lv_goto (tgt := 33) hx hb d_SlippedStreamsModel_reads_24 (by decide) ?_
      exact q_iret hx hb hr hlocks h hP hD hS d_SlippedStreamsModel_reads_33
def m_handed_66 (z0 : ST) (y1 y2 y3 y4 y5 y6 : Int32) : OR := if y2 = 0 then (if y5 = 0 then (if y6 = 0 then (some ((-1), z0)) else (some (y4, z0))) else (some (y3, z0))) else (if y5 = 0 then (some ((-1), z0)) else (if y6 = 0 then (some ((-1), z0)) else (some (y4, z0))))
def m_handed_65 (z0 : ST) (y1 y2 y3 y4 y5 : Int32) : OR := m_handed_66 z0 y1 y2 y3 y4 y5 0
def m_handed_61 (z0 : ST) (y1 y2 y3 y4 y5 : Int32) : OR := m_handed_66 z0 y1 y2 y3 y4 y5 1
def m_handed_33 (z0 : ST) (y1 y2 y3 y4 y5 : Int32) : OR := if y4 < 0 then (m_handed_65 z0 y1 y2 y3 y4 y5) else (gin y4 8 (if (z0.2 4 y4.toNatClampNeg) = 0 then (m_handed_65 z0 y1 y2 y3 y4 y5) else (if y5 = 0 then (m_handed_61 z0 y1 y2 y3 y4 y5) else (if y4 = y3 then (m_handed_65 z0 y1 y2 y3 y4 y5) else (m_handed_61 z0 y1 y2 y3 y4 y5)))))
def m_handed_32 (z0 : ST) (y1 y2 y3 y4 : Int32) : OR := m_handed_33 z0 y1 y2 y3 y4 0
def m_handed (z0 : ST) (x1 x2 : Int32) : OR := obn (m_reads z0 x1 0) (fun r1 z1 => obn (m_reads z1 x1 1) (fun r2 z2 => if r1 < 0 then (m_handed_32 z2 x1 x2 r1 r2) else (gin r1 8 (if (z2.2 4 r1.toNatClampNeg) = 0 then (m_handed_32 z2 x1 x2 r1 r2) else (m_handed_33 z2 x1 x2 r1 r2 1)))))
set_option maxRecDepth 100000 in
set_option maxHeartbeats 4000000 in
theorem c_m_handed (l : Launch) (dC : Nat → ClassId) (dI : Nat → Nat → Nat) (cI cZ : ClassId) (ad : Nat → Nat) (z0 : ST) (x1 x2 : Int32) (R : Int32 × ST) (h : m_handed z0 x1 x2 = some R) : qMi l y_SlippedStreamsModel_handed w_SlippedStreamsModel_handed 2 43 (KX dC dI cI cZ) (dC, dI) q_cl (wM cI cZ ad) [.ref (ad 0), .int x1, .int x2] z0 R := by
  intro sz
  refine Met.ofW (cc := b_SlippedStreamsModel_handed) (maxL := 7) (ret := (some .int)) (by decide) rfl ?_
  intro p e s m args below meth c s₁ B hml hv
  obtain ⟨rfl, hsz, hP, hKK, hD0⟩ := hv
  have hx := B.exec
  have hb := B.bytes
  have hr := B.returns
  have hts : ∀ w ∈ q_big, w.before _ s = true := fun w h => atoms_spec (ws := w_SlippedStreamsModel_handed) B.pre w (List.mem_cons_of_mem _ h)
  have hown : s.vm.findClass "SlippedStreamsModel" = some m.cls := findClass_of_methodNamed B.named
  have hlocks := B.notSynchronized
  subst hsz
  have hD := hD0.self (sz := s.heap.size)
  generalize hAe : va_A (wM cI cZ ad z0) s.heap.size = A at hD ⊢
  have hA : ∀ q : Nat, s.heap.size ≤ q → A q := fun q h => by rw [← hAe]; exact Or.inr h
  have hS : va_S A s.heap s.heap [] := va_S.rf
  have hK := hKK.1
  have hl := lv_entry ([.ref (ad 0), .int x1, .int x2]) (n := 7) (Nat.le_of_ble_eq_true rfl)
  rw [lg_entry_eq]
  generalize (lg_sl ([.ref (ad 0), .int x1, .int x2]) ++ List.replicate (7 - (lg_sl ([.ref (ad 0), .int x1, .int x2])).length) Slot.unset).toArray = ls at hl ⊢
  have hl : lv_has ls 7 [(0, .ref (ad 0)), (1, .int x1), (2, .int x2)] := hl
  have jp_66 : ∀ (z0 : ST) (y1 y2 y3 y4 y5 y6 : Int32) (H : Heap) (locs : List Loc) (ls : Array Slot), m_handed_66 z0 y1 y2 y3 y4 y5 y6 = some R → va_P (dC, dI) q_cl (wM cI cZ ad z0) H → va_D A (wM cI cZ ad z0) → va_S A s.heap H locs → lv_has ls 7 [(0, .ref (ad 0)), (1, .int y1), (2, .int y2), (3, .int y3), (4, .int y4), (5, .int y5)] → qWi p l e w_SlippedStreamsModel_handed 2 43 s m [.ref (ad 0), .int x1, .int x2] below meth c (dC, dI) q_cl (wM cI cZ ad) A R H locs (F0 m 66 ls [.int y6]) := by
    intro z0 y1 y2 y3 y4 y5 y6 H locs ls h hP hD hS hl
    unfold m_handed_66 at h
    refine lv_istore (lv' := [(6, .int y6), (0, .ref (ad 0)), (1, .int y1), (2, .int y2), (3, .int y3), (4, .int y4), (5, .int y5)]) hx hb d_SlippedStreamsModel_handed_66 hl (by decide) rfl (fun ls hl => ?_)
    refine lv_iload_n hx hb d_SlippedStreamsModel_handed_68 rfl (lv_at hl 3 rfl) ?_
    refine lv_if_ne (tgt := 95) hx hb d_SlippedStreamsModel_handed_69 (by decide) (fun hc => ?_) (fun hc => ?_)
    · replace h := if_f hc h
      refine lv_iload hx hb d_SlippedStreamsModel_handed_95 (lv_at hl 6 rfl) ?_
      refine lv_if_eq (tgt := 110) hx hb d_SlippedStreamsModel_handed_97 (by decide) (fun hc => ?_) (fun hc => ?_)
      · replace h := if_t hc h
        refine lv_iconst (v := (-1)) hx hb d_SlippedStreamsModel_handed_110 (by decide) ?_
        exact q_iret hx hb hr hlocks h hP hD hS d_SlippedStreamsModel_handed_111
      · replace h := if_f hc h
        refine lv_iload hx hb d_SlippedStreamsModel_handed_100 (lv_at hl 0 rfl) ?_
        refine lv_if_eq (tgt := 110) hx hb d_SlippedStreamsModel_handed_102 (by decide) (fun hc => ?_) (fun hc => ?_)
        · replace h := if_t hc h
          refine lv_iconst (v := (-1)) hx hb d_SlippedStreamsModel_handed_110 (by decide) ?_
          exact q_iret hx hb hr hlocks h hP hD hS d_SlippedStreamsModel_handed_111
        · replace h := if_f hc h
          refine lv_iload hx hb d_SlippedStreamsModel_handed_105 (lv_at hl 5 rfl) ?_
          refine lv_goto (tgt := 111) hx hb d_SlippedStreamsModel_handed_107 (by decide) ?_
          exact q_iret hx hb hr hlocks h hP hD hS d_SlippedStreamsModel_handed_111
    · replace h := if_t hc h
      refine lv_iload hx hb d_SlippedStreamsModel_handed_72 (lv_at hl 6 rfl) ?_
      refine lv_if_eq (tgt := 81) hx hb d_SlippedStreamsModel_handed_74 (by decide) (fun hc => ?_) (fun hc => ?_)
      · replace h := if_t hc h
        refine lv_iload hx hb d_SlippedStreamsModel_handed_81 (lv_at hl 0 rfl) ?_
        refine lv_if_eq (tgt := 91) hx hb d_SlippedStreamsModel_handed_83 (by decide) (fun hc => ?_) (fun hc => ?_)
        · replace h := if_t hc h
          refine lv_iconst (v := (-1)) hx hb d_SlippedStreamsModel_handed_91 (by decide) ?_
          refine lv_goto (tgt := 111) hx hb d_SlippedStreamsModel_handed_92 (by decide) ?_
          exact q_iret hx hb hr hlocks h hP hD hS d_SlippedStreamsModel_handed_111
        · replace h := if_f hc h
          refine lv_iload hx hb d_SlippedStreamsModel_handed_86 (lv_at hl 5 rfl) ?_
          refine lv_goto (tgt := 111) hx hb d_SlippedStreamsModel_handed_88 (by decide) ?_
          exact q_iret hx hb hr hlocks h hP hD hS d_SlippedStreamsModel_handed_111
      · replace h := if_f hc h
        refine lv_iload_n hx hb d_SlippedStreamsModel_handed_77 rfl (lv_at hl 4 rfl) ?_
        refine lv_goto (tgt := 111) hx hb d_SlippedStreamsModel_handed_78 (by decide) ?_
        exact q_iret hx hb hr hlocks h hP hD hS d_SlippedStreamsModel_handed_111
  have jp_65 : ∀ (z0 : ST) (y1 y2 y3 y4 y5 : Int32) (H : Heap) (locs : List Loc) (ls : Array Slot), m_handed_65 z0 y1 y2 y3 y4 y5 = some R → va_P (dC, dI) q_cl (wM cI cZ ad z0) H → va_D A (wM cI cZ ad z0) → va_S A s.heap H locs → lv_has ls 7 [(0, .ref (ad 0)), (1, .int y1), (2, .int y2), (3, .int y3), (4, .int y4), (5, .int y5)] → qWi p l e w_SlippedStreamsModel_handed 2 43 s m [.ref (ad 0), .int x1, .int x2] below meth c (dC, dI) q_cl (wM cI cZ ad) A R H locs (F0 m 65 ls []) := by
    intro z0 y1 y2 y3 y4 y5 H locs ls h hP hD hS hl
    unfold m_handed_65 at h
    refine lv_iconst (v := 0) hx hb d_SlippedStreamsModel_handed_65 (by decide) ?_
    exact jp_66 z0 y1 y2 y3 y4 y5 0 _ _ _ h hP hD hS (lv_sub hl [0, 1, 2, 3, 4, 5] rfl)
  have jp_61 : ∀ (z0 : ST) (y1 y2 y3 y4 y5 : Int32) (H : Heap) (locs : List Loc) (ls : Array Slot), m_handed_61 z0 y1 y2 y3 y4 y5 = some R → va_P (dC, dI) q_cl (wM cI cZ ad z0) H → va_D A (wM cI cZ ad z0) → va_S A s.heap H locs → lv_has ls 7 [(0, .ref (ad 0)), (1, .int y1), (2, .int y2), (3, .int y3), (4, .int y4), (5, .int y5)] → qWi p l e w_SlippedStreamsModel_handed 2 43 s m [.ref (ad 0), .int x1, .int x2] below meth c (dC, dI) q_cl (wM cI cZ ad) A R H locs (F0 m 61 ls []) := by
    intro z0 y1 y2 y3 y4 y5 H locs ls h hP hD hS hl
    unfold m_handed_61 at h
    refine lv_iconst (v := 1) hx hb d_SlippedStreamsModel_handed_61 (by decide) ?_
    refine lv_goto (tgt := 66) hx hb d_SlippedStreamsModel_handed_62 (by decide) ?_
    exact jp_66 z0 y1 y2 y3 y4 y5 1 _ _ _ h hP hD hS (lv_sub hl [0, 1, 2, 3, 4, 5] rfl)
  have jp_33 : ∀ (z0 : ST) (y1 y2 y3 y4 y5 : Int32) (H : Heap) (locs : List Loc) (ls : Array Slot), m_handed_33 z0 y1 y2 y3 y4 y5 = some R → va_P (dC, dI) q_cl (wM cI cZ ad z0) H → va_D A (wM cI cZ ad z0) → va_S A s.heap H locs → lv_has ls 7 [(0, .ref (ad 0)), (1, .int y1), (2, .int y2), (3, .int y3), (4, .int y4)] → qWi p l e w_SlippedStreamsModel_handed 2 43 s m [.ref (ad 0), .int x1, .int x2] below meth c (dC, dI) q_cl (wM cI cZ ad) A R H locs (F0 m 33 ls [.int y5]) := by
    intro z0 y1 y2 y3 y4 y5 H locs ls h hP hD hS hl
    unfold m_handed_33 at h
    refine lv_istore (lv' := [(5, .int y5), (0, .ref (ad 0)), (1, .int y1), (2, .int y2), (3, .int y3), (4, .int y4)]) hx hb d_SlippedStreamsModel_handed_33 hl (by decide) rfl (fun ls hl => ?_)
    refine lv_iload hx hb d_SlippedStreamsModel_handed_35 (lv_at hl 5 rfl) ?_
    refine lv_if_lt (tgt := 65) hx hb d_SlippedStreamsModel_handed_37 (by decide) (fun hc => ?_) (fun hc => ?_)
    · replace h := if_t hc h
      exact jp_65 z0 y1 y2 y3 y4 y5 _ _ _ h hP hD hS (lv_sub hl [1, 2, 3, 4, 5, 0] rfl)
    · replace h := if_f hc h
      refine lv_aload_n hx hb d_SlippedStreamsModel_handed_40 rfl (lv_at hl 1 rfl) ?_
      refine mg_0_isAddress hx hb hts hin_SlippedStreamsModel hown hK hP (hts _ k_820) (fun _ h9 => h9) d_SlippedStreamsModel_handed_41 ?_
      refine lv_iload hx hb d_SlippedStreamsModel_handed_44 (lv_at hl 5 rfl) ?_
      obtain ⟨hi, h⟩ := gin_e h
      refine ml_4 hx hb hK hP hi d_SlippedStreamsModel_handed_46 ?_
      refine lv_if_eq (tgt := 65) hx hb d_SlippedStreamsModel_handed_47 (by decide) (fun hc => ?_) (fun hc => ?_)
      · replace h := if_t hc h
        exact jp_65 z0 y1 y2 y3 y4 y5 _ _ _ h hP hD hS (lv_sub hl [1, 2, 3, 4, 5, 0] rfl)
      · replace h := if_f hc h
        refine lv_iload hx hb d_SlippedStreamsModel_handed_50 (lv_at hl 0 rfl) ?_
        refine lv_if_eq (tgt := 61) hx hb d_SlippedStreamsModel_handed_52 (by decide) (fun hc => ?_) (fun hc => ?_)
        · replace h := if_t hc h
          exact jp_61 z0 y1 y2 y3 y4 y5 _ _ _ h hP hD hS (lv_sub hl [1, 2, 3, 4, 5, 0] rfl)
        · replace h := if_f hc h
          refine lv_iload hx hb d_SlippedStreamsModel_handed_55 (lv_at hl 5 rfl) ?_
          refine lv_iload_n hx hb d_SlippedStreamsModel_handed_57 rfl (lv_at hl 4 rfl) ?_
          refine lv_icmp_eq (tgt := 65) hx hb d_SlippedStreamsModel_handed_58 (by decide) (fun hc => ?_) (fun hc => ?_)
          · replace h := if_t hc h
            exact jp_65 z0 y1 y2 y3 y4 y5 _ _ _ h hP hD hS (lv_sub hl [1, 2, 3, 4, 5, 0] rfl)
          · replace h := if_f hc h
            exact jp_61 z0 y1 y2 y3 y4 y5 _ _ _ h hP hD hS (lv_sub hl [1, 2, 3, 4, 5, 0] rfl)
  have jp_32 : ∀ (z0 : ST) (y1 y2 y3 y4 : Int32) (H : Heap) (locs : List Loc) (ls : Array Slot), m_handed_32 z0 y1 y2 y3 y4 = some R → va_P (dC, dI) q_cl (wM cI cZ ad z0) H → va_D A (wM cI cZ ad z0) → va_S A s.heap H locs → lv_has ls 7 [(0, .ref (ad 0)), (1, .int y1), (2, .int y2), (3, .int y3), (4, .int y4)] → qWi p l e w_SlippedStreamsModel_handed 2 43 s m [.ref (ad 0), .int x1, .int x2] below meth c (dC, dI) q_cl (wM cI cZ ad) A R H locs (F0 m 32 ls []) := by
    intro z0 y1 y2 y3 y4 H locs ls h hP hD hS hl
    unfold m_handed_32 at h
    refine lv_iconst (v := 0) hx hb d_SlippedStreamsModel_handed_32 (by decide) ?_
    exact jp_33 z0 y1 y2 y3 y4 0 _ _ _ h hP hD hS (lv_sub hl [0, 1, 2, 3, 4] rfl)
  unfold m_handed at h
  refine lv_aload_n hx hb d_SlippedStreamsModel_handed_0 rfl (lv_at hl 0 rfl) ?_
  refine lv_iload_n hx hb d_SlippedStreamsModel_handed_1 rfl (lv_at hl 1 rfl) ?_
  refine lv_iconst (v := 0) hx hb d_SlippedStreamsModel_handed_2 (by decide) ?_
  obtain ⟨r1, z1, hc1, h⟩ := obn_e h
  refine q_goi (va_runV (As := [.int x1, .int 0]) (rest := []) ⟨hx, hb, hml, hown, hts⟩ (c_m_reads l dC dI cI cZ ad z0 x1 0 _ hc1 _) (cwV 2 hts (q_goodL _ (q_l4 k_937 k_939 k_34 k_64) k_940) rfl rfl rfl (by decide +kernel) ⟨Nat.le_of_ble_eq_true rfl, Nat.le_of_ble_eq_true rfl⟩) (q_preV qok hKK hP hD (va_recv (ci := 9) (q0 := 0) hK hP rfl rfl)) rfl rfl hl.1 rfl (lv_room (Nat.le_of_ble_eq_true rfl)) d_SlippedStreamsModel_handed_3 ⟨Nat.le_refl _, Nat.le_refl _⟩) hD hS hA (fun H locs hP hD hS => ?_)
  refine lv_istore_n (lv' := [(3, .int r1), (0, .ref (ad 0)), (1, .int x1), (2, .int x2)]) hx hb d_SlippedStreamsModel_handed_6 rfl hl (by decide) rfl (fun ls hl => ?_)
  refine lv_aload_n hx hb d_SlippedStreamsModel_handed_7 rfl (lv_at hl 1 rfl) ?_
  refine lv_iload_n hx hb d_SlippedStreamsModel_handed_8 rfl (lv_at hl 2 rfl) ?_
  refine lv_iconst (v := 1) hx hb d_SlippedStreamsModel_handed_9 (by decide) ?_
  obtain ⟨r2, z2, hc2, h⟩ := obn_e h
  refine q_goi (va_runV (As := [.int x1, .int 1]) (rest := []) ⟨hx, hb, hml, hown, hts⟩ (c_m_reads l dC dI cI cZ ad z1 x1 1 _ hc2 _) (cwV 2 hts (q_goodL _ (q_l4 k_937 k_939 k_34 k_64) k_940) rfl rfl rfl (by decide +kernel) ⟨Nat.le_of_ble_eq_true rfl, Nat.le_of_ble_eq_true rfl⟩) (q_preV qok hKK hP hD (va_recv (ci := 9) (q0 := 0) hK hP rfl rfl)) rfl rfl hl.1 rfl (lv_room (Nat.le_of_ble_eq_true rfl)) d_SlippedStreamsModel_handed_10 ⟨Nat.le_refl _, Nat.le_refl _⟩) hD hS hA (fun H locs hP hD hS => ?_)
  refine lv_istore (lv' := [(4, .int r2), (3, .int r1), (0, .ref (ad 0)), (1, .int x1), (2, .int x2)]) hx hb d_SlippedStreamsModel_handed_13 hl (by decide) rfl (fun ls hl => ?_)
  refine lv_iload_n hx hb d_SlippedStreamsModel_handed_15 rfl (lv_at hl 1 rfl) ?_
  refine lv_if_lt (tgt := 32) hx hb d_SlippedStreamsModel_handed_16 (by decide) (fun hc => ?_) (fun hc => ?_)
  · replace h := if_t hc h
    exact jp_32 z2 x1 x2 r1 r2 _ _ _ h hP hD hS (lv_sub hl [2, 3, 4, 1, 0] rfl)
  · replace h := if_f hc h
    refine lv_aload_n hx hb d_SlippedStreamsModel_handed_19 rfl (lv_at hl 2 rfl) ?_
    refine mg_0_isAddress hx hb hts hin_SlippedStreamsModel hown hK hP (hts _ k_820) (fun _ h9 => h9) d_SlippedStreamsModel_handed_20 ?_
    refine lv_iload_n hx hb d_SlippedStreamsModel_handed_23 rfl (lv_at hl 1 rfl) ?_
    obtain ⟨hi, h⟩ := gin_e h
    refine ml_4 hx hb hK hP hi d_SlippedStreamsModel_handed_24 ?_
    refine lv_if_eq (tgt := 32) hx hb d_SlippedStreamsModel_handed_25 (by decide) (fun hc => ?_) (fun hc => ?_)
    · replace h := if_t hc h
      exact jp_32 z2 x1 x2 r1 r2 _ _ _ h hP hD hS (lv_sub hl [2, 3, 4, 1, 0] rfl)
    · replace h := if_f hc h
      refine lv_iconst (v := 1) hx hb d_SlippedStreamsModel_handed_28 (by decide) ?_
      refine lv_goto (tgt := 33) hx hb d_SlippedStreamsModel_handed_29 (by decide) ?_
      exact jp_33 z2 x1 x2 r1 r2 1 _ _ _ h hP hD hS (lv_sub hl [2, 3, 4, 1, 0] rfl)
