def lw_g18 (xs : Nat → Int32) (L : Nat) (k : Nat → ST → ST → Int32 → Int32 → Int32 → Int32 → OL) (z0 t0 : ST) (y1 y2 y3 y4 : Int32) : OL := if ((Int32.ofNat L) - 5) < y1 then (some 1) else (gil y1 L (if (xs y1.toNatClampNeg) &&& 31 = 0 then (gil (y1 + 1) L (gil (y1 + 2) L (gil (y1 + 3) L (gil (y1 + 4) L (oln (x_add z0 (xs (y1 + 1).toNatClampNeg) (xs (y1 + 2).toNatClampNeg) (xs (y1 + 3).toNatClampNeg) (xs (y1 + 4).toNatClampNeg)) (fun r1 z1 => gil (y1 + 1) L (gil (y1 + 2) L (gil (y1 + 3) L (gil (y1 + 4) L (oln (m_add t0 (xs (y1 + 1).toNatClampNeg) (xs (y1 + 2).toNatClampNeg) (xs (y1 + 3).toNatClampNeg) (xs (y1 + 4).toNatClampNeg)) (fun r2 t2 => if r1 = r2 then (k 9 z1 t2 y1 0 0 0) else (some 0)))))))))))) else (if (xs y1.toNatClampNeg) &&& 31 = 1 then (gil (y1 + 1) L (gil (y1 + 2) L (oln (x_fill z0 (xs (y1 + 1).toNatClampNeg) (xs (y1 + 2).toNatClampNeg)) (fun r3 z3 => gil (y1 + 1) L (gil (y1 + 2) L (oln (m_fill t0 (xs (y1 + 1).toNatClampNeg) (xs (y1 + 2).toNatClampNeg)) (fun r4 t4 => k 9 z3 t4 y1 0 0 0))))))) else (if (xs y1.toNatClampNeg) &&& 31 = 2 then (oln (x_clear z0) (fun r5 z5 => oln (m_clear t0) (fun r6 t6 => if r5 = r6 then (k 9 z5 t6 y1 0 0 0) else (some 0)))) else (if (xs y1.toNatClampNeg) &&& 31 = 3 then (oln (x_reset z0) (fun r7 z7 => oln (m_reset t0) (fun r8 t8 => k 9 z7 t8 y1 0 0 0))) else (if (xs y1.toNatClampNeg) &&& 31 = 4 then (gil (y1 + 1) L (oln (x_streamOf z0 (xs (y1 + 1).toNatClampNeg)) (fun r9 z9 => gil (y1 + 1) L (oln (m_streamOf t0 (xs (y1 + 1).toNatClampNeg)) (fun r10 t10 => if r9 = r10 then (k 9 z9 t10 y1 0 0 0) else (some 0)))))) else (if (xs y1.toNatClampNeg) &&& 31 = 5 then (oln (x_addressRegisters z0) (fun r11 z11 => oln (m_addressRegisters t0) (fun r12 t12 => if r11 = r12 then (k 9 z11 t12 y1 0 0 0) else (some 0)))) else (if (xs y1.toNatClampNeg) &&& 31 = 6 then (gil (y1 + 1) L (oln (x_address z0 (xs (y1 + 1).toNatClampNeg)) (fun r13 z13 => gil (y1 + 1) L (oln (m_address t0 (xs (y1 + 1).toNatClampNeg)) (fun r14 t14 => if r13 = r14 then (k 9 z13 t14 y1 0 0 0) else (some 0)))))) else (if (xs y1.toNatClampNeg) &&& 31 = 7 then (gil (y1 + 1) L (oln (x_value z0 (xs (y1 + 1).toNatClampNeg)) (fun r15 z15 => gil (y1 + 1) L (oln (m_value t0 (xs (y1 + 1).toNatClampNeg)) (fun r16 t16 => if r15 = r16 then (k 9 z15 t16 y1 0 0 0) else (some 0)))))) else (if (xs y1.toNatClampNeg) &&& 31 = 8 then (gil (y1 + 1) L (oln (x_both z0 (xs (y1 + 1).toNatClampNeg)) (fun r17 z17 => gil (y1 + 1) L (oln (m_both t0 (xs (y1 + 1).toNatClampNeg)) (fun r18 t18 => if r17 = r18 then (k 9 z17 t18 y1 0 0 0) else (some 0)))))) else (if (xs y1.toNatClampNeg) &&& 31 = 9 then (gil (y1 + 1) L (oln (x_place z0 (xs (y1 + 1).toNatClampNeg)) (fun r19 z19 => gil (y1 + 1) L (oln (m_place t0 (xs (y1 + 1).toNatClampNeg)) (fun r20 t20 => if r19 = r20 then (k 9 z19 t20 y1 0 0 0) else (some 0)))))) else (if (xs y1.toNatClampNeg) &&& 31 = 10 then (oln (x_slip z0) (fun r21 z21 => oln (m_slip t0) (fun r22 t22 => if r21 = r22 then (k 9 z21 t22 y1 0 0 0) else (some 0)))) else (if (xs y1.toNatClampNeg) &&& 31 = 11 then (gil (y1 + 1) L (oln (x_queue z0 (xs (y1 + 1).toNatClampNeg)) (fun r23 z23 => gil (y1 + 1) L (oln (m_queue t0 (xs (y1 + 1).toNatClampNeg)) (fun r24 t24 => if r23 = r24 then (k 9 z23 t24 y1 0 0 0) else (some 0)))))) else (if (xs y1.toNatClampNeg) &&& 31 = 12 then (gil (y1 + 1) L (gil (y1 + 2) L (if (xs (y1 + 2).toNatClampNeg) = 0 then (k 1 z0 t0 y1 (xs (y1 + 1).toNatClampNeg) 0 0) else (k 1 z0 t0 y1 (xs (y1 + 1).toNatClampNeg) 1 0)))) else (if (xs y1.toNatClampNeg) &&& 31 = 13 then (gil (y1 + 1) L (gil (y1 + 2) L (if (xs (y1 + 2).toNatClampNeg) = 0 then (k 3 z0 t0 y1 (xs (y1 + 1).toNatClampNeg) 0 0) else (k 3 z0 t0 y1 (xs (y1 + 1).toNatClampNeg) 1 0)))) else (if (xs y1.toNatClampNeg) &&& 31 = 14 then (oln (x_losses z0) (fun r25 z25 => oln (m_losses t0) (fun r26 t26 => if r25 = r26 then (k 9 z25 t26 y1 0 0 0) else (some 0)))) else (if (xs y1.toNatClampNeg) &&& 31 = 15 then (gil (y1 + 1) L (oln (x_plain z0 (xs (y1 + 1).toNatClampNeg)) (fun r27 z27 => gil (y1 + 1) L (oln (m_plain t0 (xs (y1 + 1).toNatClampNeg)) (fun r28 t28 => if r27 = r28 then (k 9 z27 t28 y1 0 0 0) else (some 0)))))) else (if (xs y1.toNatClampNeg) &&& 31 = 16 then (gil (y1 + 1) L (if (xs (y1 + 1).toNatClampNeg) = 0 then (k 5 z0 t0 y1 0 0 0) else (k 5 z0 t0 y1 1 0 0))) else (if (xs y1.toNatClampNeg) &&& 31 = 17 then (gil (y1 + 1) L (gil (y1 + 2) L (if (xs (y1 + 2).toNatClampNeg) = 0 then (k 7 z0 t0 y1 (xs (y1 + 1).toNatClampNeg) 0 0) else (k 7 z0 t0 y1 (xs (y1 + 1).toNatClampNeg) 1 0)))) else (k 9 z0 t0 y1 0 0 0))))))))))))))))))))
def lw_g411 (xs : Nat → Int32) (L : Nat) (k : Nat → ST → ST → Int32 → Int32 → Int32 → Int32 → OL) (z0 t0 : ST) (y1 y2 y3 y4 : Int32) : OL := oln (x_register z0 y2 y3) (fun r29 z29 => gil (y1 + 1) L (gil (y1 + 2) L (if (xs (y1 + 2).toNatClampNeg) = 0 then (k 2 z29 t0 y1 r29 (xs (y1 + 1).toNatClampNeg) 0) else (k 2 z29 t0 y1 r29 (xs (y1 + 1).toNatClampNeg) 1))))
def lw_g433 (xs : Nat → Int32) (L : Nat) (k : Nat → ST → ST → Int32 → Int32 → Int32 → Int32 → OL) (z0 t0 : ST) (y1 y2 y3 y4 : Int32) : OL := oln (m_register t0 y3 y4) (fun r30 t30 => if y2 = r30 then (k 9 z0 t30 y1 0 0 0) else (some 0))
def lw_g460 (xs : Nat → Int32) (L : Nat) (k : Nat → ST → ST → Int32 → Int32 → Int32 → Int32 → OL) (z0 t0 : ST) (y1 y2 y3 y4 : Int32) : OL := oln (x_peek z0 y2 y3) (fun r31 z31 => gil (y1 + 1) L (gil (y1 + 2) L (if (xs (y1 + 2).toNatClampNeg) = 0 then (k 4 z31 t0 y1 r31 (xs (y1 + 1).toNatClampNeg) 0) else (k 4 z31 t0 y1 r31 (xs (y1 + 1).toNatClampNeg) 1))))
def lw_g482 (xs : Nat → Int32) (L : Nat) (k : Nat → ST → ST → Int32 → Int32 → Int32 → Int32 → OL) (z0 t0 : ST) (y1 y2 y3 y4 : Int32) : OL := oln (m_peek t0 y3 y4) (fun r32 t32 => if y2 = r32 then (k 9 z0 t32 y1 0 0 0) else (some 0))
def lw_g540 (xs : Nat → Int32) (L : Nat) (k : Nat → ST → ST → Int32 → Int32 → Int32 → Int32 → OL) (z0 t0 : ST) (y1 y2 y3 y4 : Int32) : OL := oln (x_outputs z0 y2) (fun r33 z33 => gil (y1 + 1) L (if (xs (y1 + 1).toNatClampNeg) = 0 then (k 6 z33 t0 y1 r33 0 0) else (k 6 z33 t0 y1 r33 1 0)))
def lw_g557 (xs : Nat → Int32) (L : Nat) (k : Nat → ST → ST → Int32 → Int32 → Int32 → Int32 → OL) (z0 t0 : ST) (y1 y2 y3 y4 : Int32) : OL := oln (m_outputs t0 y3) (fun r34 t34 => if y2 = r34 then (k 9 z0 t34 y1 0 0 0) else (some 0))
def lw_g584 (xs : Nat → Int32) (L : Nat) (k : Nat → ST → ST → Int32 → Int32 → Int32 → Int32 → OL) (z0 t0 : ST) (y1 y2 y3 y4 : Int32) : OL := oln (x_output z0 y2 y3) (fun r35 z35 => gil (y1 + 1) L (gil (y1 + 2) L (if (xs (y1 + 2).toNatClampNeg) = 0 then (k 8 z35 t0 y1 r35 (xs (y1 + 1).toNatClampNeg) 0) else (k 8 z35 t0 y1 r35 (xs (y1 + 1).toNatClampNeg) 1))))
def lw_g606 (xs : Nat → Int32) (L : Nat) (k : Nat → ST → ST → Int32 → Int32 → Int32 → Int32 → OL) (z0 t0 : ST) (y1 y2 y3 y4 : Int32) : OL := oln (m_output t0 y3 y4) (fun r36 t36 => if y2 = r36 then (k 9 z0 t36 y1 0 0 0) else (some 0))
def lw_g614 (xs : Nat → Int32) (L : Nat) (k : Nat → ST → ST → Int32 → Int32 → Int32 → Int32 → OL) (z0 t0 : ST) (y1 y2 y3 y4 : Int32) : OL := k 0 z0 t0 (y1 + 5) 0 0 0
def lw_g (xs : Nat → Int32) (L : Nat) (k : Nat → ST → ST → Int32 → Int32 → Int32 → Int32 → OL) (n : Nat) : ST → ST → Int32 → Int32 → Int32 → Int32 → OL := match n with
  | 0 => lw_g18 xs L k
  | 1 => lw_g411 xs L k
  | 2 => lw_g433 xs L k
  | 3 => lw_g460 xs L k
  | 4 => lw_g482 xs L k
  | 5 => lw_g540 xs L k
  | 6 => lw_g557 xs L k
  | 7 => lw_g584 xs L k
  | 8 => lw_g606 xs L k
  | 9 => lw_g614 xs L k
  | _ => fun _ _ _ _ _ _ => none
def lw_f (xs : Nat → Int32) (L : Nat) : Nat → Nat → ST → ST → Int32 → Int32 → Int32 → Int32 → OL
  | 0 => fun _ _ _ _ _ _ _ => none
  | n + 1 => lw_g xs L (lw_f xs L n)
set_option maxRecDepth 100000 in
set_option maxHeartbeats 8000000 in
theorem lw_loop {p : Program} {e : Env} {s : State} {m : MethodId} {below : List Frame} {meth : Method} {c : Code} (l : Launch) {b L : Nat} {xs : Nat → Int32} (hx : p.tables.exec = Jvm.exec) (hb : c.code = b_SlippedStreamsLaw_law) (hr : meth.sig.returnType = ret) (hml : c.maxLocals = 4) (hown : s.vm.findClass "SlippedStreamsLaw" = some m.cls) (hts : ∀ w ∈ q_big, w.before #[Value.ref b] s = true) (hX : va_X b L xs s s.heap) (hbl : b < s.heap.size) (hlocks : meth.locks = false)
    (dC : Nat → ClassId) (dI : Nat → Nat → Nat) (cI cZ : ClassId) (ad bd : Nat → Nat) (hKK : KX dC dI cI cZ s) {A : Nat → Prop} (hA : ∀ q, s.heap.size ≤ q → A q) (hAs : ∀ q, A q → s.heap.size ≤ q) (hbA : ¬ A b) {ce sl : Nat} (hce : ce ≤ 600000) (hsl : sl ≤ 7302250) : ∀ n : Nat, (∀ (z0 t0 : ST) (y1 y2 y3 y4 : Int32) (H : Heap) (locs : List Loc) (ls : Array Slot), lw_f xs L n 0 z0 t0 y1 y2 y3 y4 = some 1 → va_P (dC, dI) q_cl (wX cI cZ ad z0) H → va_D A (wX cI cZ ad z0) → va_P (dC, dI) q_cl (wM cI cZ bd t0) H → va_D A (wM cI cZ bd t0) → q_ap (wX cI cZ ad z0) (wM cI cZ bd t0) → va_S A s.heap H locs → lv_has ls 4 [(0, .ref b), (1, .ref (ad 0)), (2, .ref (bd 0)), (3, .int y1)] → W p l e room_1 s m #[Value.ref b] below meth c H locs ce sl (lw_Z below #[Value.ref b] s) (F0 m 18 ls [])) ∧ (∀ (z0 t0 : ST) (y1 y2 y3 y4 : Int32) (H : Heap) (locs : List Loc) (ls : Array Slot), lw_f xs L n 1 z0 t0 y1 y2 y3 y4 = some 1 → va_P (dC, dI) q_cl (wX cI cZ ad z0) H → va_D A (wX cI cZ ad z0) → va_P (dC, dI) q_cl (wM cI cZ bd t0) H → va_D A (wM cI cZ bd t0) → q_ap (wX cI cZ ad z0) (wM cI cZ bd t0) → va_S A s.heap H locs → lv_has ls 4 [(0, .ref b), (1, .ref (ad 0)), (2, .ref (bd 0)), (3, .int y1)] → W p l e room_1 s m #[Value.ref b] below meth c H locs ce sl (lw_Z below #[Value.ref b] s) (F0 m 411 ls [.int y3, .int y2, .ref (ad 0)])) ∧ (∀ (z0 t0 : ST) (y1 y2 y3 y4 : Int32) (H : Heap) (locs : List Loc) (ls : Array Slot), lw_f xs L n 2 z0 t0 y1 y2 y3 y4 = some 1 → va_P (dC, dI) q_cl (wX cI cZ ad z0) H → va_D A (wX cI cZ ad z0) → va_P (dC, dI) q_cl (wM cI cZ bd t0) H → va_D A (wM cI cZ bd t0) → q_ap (wX cI cZ ad z0) (wM cI cZ bd t0) → va_S A s.heap H locs → lv_has ls 4 [(0, .ref b), (1, .ref (ad 0)), (2, .ref (bd 0)), (3, .int y1)] → W p l e room_1 s m #[Value.ref b] below meth c H locs ce sl (lw_Z below #[Value.ref b] s) (F0 m 433 ls [.int y4, .int y3, .ref (bd 0), .int y2])) ∧ (∀ (z0 t0 : ST) (y1 y2 y3 y4 : Int32) (H : Heap) (locs : List Loc) (ls : Array Slot), lw_f xs L n 3 z0 t0 y1 y2 y3 y4 = some 1 → va_P (dC, dI) q_cl (wX cI cZ ad z0) H → va_D A (wX cI cZ ad z0) → va_P (dC, dI) q_cl (wM cI cZ bd t0) H → va_D A (wM cI cZ bd t0) → q_ap (wX cI cZ ad z0) (wM cI cZ bd t0) → va_S A s.heap H locs → lv_has ls 4 [(0, .ref b), (1, .ref (ad 0)), (2, .ref (bd 0)), (3, .int y1)] → W p l e room_1 s m #[Value.ref b] below meth c H locs ce sl (lw_Z below #[Value.ref b] s) (F0 m 460 ls [.int y3, .int y2, .ref (ad 0)])) ∧ (∀ (z0 t0 : ST) (y1 y2 y3 y4 : Int32) (H : Heap) (locs : List Loc) (ls : Array Slot), lw_f xs L n 4 z0 t0 y1 y2 y3 y4 = some 1 → va_P (dC, dI) q_cl (wX cI cZ ad z0) H → va_D A (wX cI cZ ad z0) → va_P (dC, dI) q_cl (wM cI cZ bd t0) H → va_D A (wM cI cZ bd t0) → q_ap (wX cI cZ ad z0) (wM cI cZ bd t0) → va_S A s.heap H locs → lv_has ls 4 [(0, .ref b), (1, .ref (ad 0)), (2, .ref (bd 0)), (3, .int y1)] → W p l e room_1 s m #[Value.ref b] below meth c H locs ce sl (lw_Z below #[Value.ref b] s) (F0 m 482 ls [.int y4, .int y3, .ref (bd 0), .int y2])) ∧ (∀ (z0 t0 : ST) (y1 y2 y3 y4 : Int32) (H : Heap) (locs : List Loc) (ls : Array Slot), lw_f xs L n 5 z0 t0 y1 y2 y3 y4 = some 1 → va_P (dC, dI) q_cl (wX cI cZ ad z0) H → va_D A (wX cI cZ ad z0) → va_P (dC, dI) q_cl (wM cI cZ bd t0) H → va_D A (wM cI cZ bd t0) → q_ap (wX cI cZ ad z0) (wM cI cZ bd t0) → va_S A s.heap H locs → lv_has ls 4 [(0, .ref b), (1, .ref (ad 0)), (2, .ref (bd 0)), (3, .int y1)] → W p l e room_1 s m #[Value.ref b] below meth c H locs ce sl (lw_Z below #[Value.ref b] s) (F0 m 540 ls [.int y2, .ref (ad 0)])) ∧ (∀ (z0 t0 : ST) (y1 y2 y3 y4 : Int32) (H : Heap) (locs : List Loc) (ls : Array Slot), lw_f xs L n 6 z0 t0 y1 y2 y3 y4 = some 1 → va_P (dC, dI) q_cl (wX cI cZ ad z0) H → va_D A (wX cI cZ ad z0) → va_P (dC, dI) q_cl (wM cI cZ bd t0) H → va_D A (wM cI cZ bd t0) → q_ap (wX cI cZ ad z0) (wM cI cZ bd t0) → va_S A s.heap H locs → lv_has ls 4 [(0, .ref b), (1, .ref (ad 0)), (2, .ref (bd 0)), (3, .int y1)] → W p l e room_1 s m #[Value.ref b] below meth c H locs ce sl (lw_Z below #[Value.ref b] s) (F0 m 557 ls [.int y3, .ref (bd 0), .int y2])) ∧ (∀ (z0 t0 : ST) (y1 y2 y3 y4 : Int32) (H : Heap) (locs : List Loc) (ls : Array Slot), lw_f xs L n 7 z0 t0 y1 y2 y3 y4 = some 1 → va_P (dC, dI) q_cl (wX cI cZ ad z0) H → va_D A (wX cI cZ ad z0) → va_P (dC, dI) q_cl (wM cI cZ bd t0) H → va_D A (wM cI cZ bd t0) → q_ap (wX cI cZ ad z0) (wM cI cZ bd t0) → va_S A s.heap H locs → lv_has ls 4 [(0, .ref b), (1, .ref (ad 0)), (2, .ref (bd 0)), (3, .int y1)] → W p l e room_1 s m #[Value.ref b] below meth c H locs ce sl (lw_Z below #[Value.ref b] s) (F0 m 584 ls [.int y3, .int y2, .ref (ad 0)])) ∧ (∀ (z0 t0 : ST) (y1 y2 y3 y4 : Int32) (H : Heap) (locs : List Loc) (ls : Array Slot), lw_f xs L n 8 z0 t0 y1 y2 y3 y4 = some 1 → va_P (dC, dI) q_cl (wX cI cZ ad z0) H → va_D A (wX cI cZ ad z0) → va_P (dC, dI) q_cl (wM cI cZ bd t0) H → va_D A (wM cI cZ bd t0) → q_ap (wX cI cZ ad z0) (wM cI cZ bd t0) → va_S A s.heap H locs → lv_has ls 4 [(0, .ref b), (1, .ref (ad 0)), (2, .ref (bd 0)), (3, .int y1)] → W p l e room_1 s m #[Value.ref b] below meth c H locs ce sl (lw_Z below #[Value.ref b] s) (F0 m 606 ls [.int y4, .int y3, .ref (bd 0), .int y2])) ∧ (∀ (z0 t0 : ST) (y1 y2 y3 y4 : Int32) (H : Heap) (locs : List Loc) (ls : Array Slot), lw_f xs L n 9 z0 t0 y1 y2 y3 y4 = some 1 → va_P (dC, dI) q_cl (wX cI cZ ad z0) H → va_D A (wX cI cZ ad z0) → va_P (dC, dI) q_cl (wM cI cZ bd t0) H → va_D A (wM cI cZ bd t0) → q_ap (wX cI cZ ad z0) (wM cI cZ bd t0) → va_S A s.heap H locs → lv_has ls 4 [(0, .ref b), (1, .ref (ad 0)), (2, .ref (bd 0)), (3, .int y1)] → W p l e room_1 s m #[Value.ref b] below meth c H locs ce sl (lw_Z below #[Value.ref b] s) (F0 m 614 ls [])) := by
  have hK := hKK.1
  intro n
  induction n with
  | zero => exact ⟨fun z0 t0 y1 y2 y3 y4 H locs ls h hPx hDx hPm hDm hap hS hl => (by cases h), fun z0 t0 y1 y2 y3 y4 H locs ls h hPx hDx hPm hDm hap hS hl => (by cases h), fun z0 t0 y1 y2 y3 y4 H locs ls h hPx hDx hPm hDm hap hS hl => (by cases h), fun z0 t0 y1 y2 y3 y4 H locs ls h hPx hDx hPm hDm hap hS hl => (by cases h), fun z0 t0 y1 y2 y3 y4 H locs ls h hPx hDx hPm hDm hap hS hl => (by cases h), fun z0 t0 y1 y2 y3 y4 H locs ls h hPx hDx hPm hDm hap hS hl => (by cases h), fun z0 t0 y1 y2 y3 y4 H locs ls h hPx hDx hPm hDm hap hS hl => (by cases h), fun z0 t0 y1 y2 y3 y4 H locs ls h hPx hDx hPm hDm hap hS hl => (by cases h), fun z0 t0 y1 y2 y3 y4 H locs ls h hPx hDx hPm hDm hap hS hl => (by cases h), fun z0 t0 y1 y2 y3 y4 H locs ls h hPx hDx hPm hDm hap hS hl => (by cases h)⟩
  | succ n ih =>
    obtain ⟨jp_18, jp_411, jp_433, jp_460, jp_482, jp_540, jp_557, jp_584, jp_606, jp_614⟩ := ih
    refine ⟨?_, ?_, ?_, ?_, ?_, ?_, ?_, ?_, ?_, ?_⟩
    · intro z0 t0 y1 y2 y3 y4 H locs ls h hPx hDx hPm hDm hap hS hl
      replace h : lw_g18 xs L (lw_f xs L n) z0 t0 y1 y2 y3 y4 = some 1 := h
      unfold lw_g18 at h
      refine lv_iload_n hx hb d_SlippedStreamsLaw_law_18 rfl (lv_at hl 3 rfl) ?_
      refine lv_aload_n hx hb d_SlippedStreamsLaw_law_19 rfl (lv_at hl 0 rfl) ?_
      refine va_slen hx hb hX hbl hbA hS d_SlippedStreamsLaw_law_20 ?_
      refine lv_iconst (v := 5) hx hb d_SlippedStreamsLaw_law_21 (by decide) ?_
      refine lv_isub hx hb d_SlippedStreamsLaw_law_22 ?_
      refine lv_icmp_gt (tgt := 620) hx hb d_SlippedStreamsLaw_law_23 (by decide) (fun hc => ?_) (fun hc => ?_)
      · replace h := il_t hc h
        refine lv_iconst (v := 1) hx hb d_SlippedStreamsLaw_law_620 (by decide) ?_
        refine va_forget (fun q hq => hAs _ (hS.2.2 q hq)) ?_
        refine W.widen (k := 600000) (n := 7302250) hce hsl ?_
        exact lw_ret hx hb hr hlocks d_SlippedStreamsLaw_law_621
      · replace h := il_f hc h
        refine lv_aload_n hx hb d_SlippedStreamsLaw_law_26 rfl (lv_at hl 0 rfl) ?_
        refine lv_iload_n hx hb d_SlippedStreamsLaw_law_27 rfl (lv_at hl 3 rfl) ?_
        obtain ⟨hi, h⟩ := gil_e h
        refine va_sld hx hb hX hbl hbA hS hi d_SlippedStreamsLaw_law_28 ?_
        refine lv_bipush (v := 31) hx hb d_SlippedStreamsLaw_law_29 (by decide) ?_
        refine lv_iand hx hb d_SlippedStreamsLaw_law_31 ?_
        by_cases hc0 : (xs y1.toNatClampNeg) &&& 31 = 0
        · replace h := il_t hc0 h
          refine lv_tableIn (tgt := 120) (off := 88) hx hb d_SlippedStreamsLaw_law_32 (by rw [hc0]; decide) (by rw [hc0]; decide) (by rw [hc0]; rfl) (by decide) ?_
          refine lv_aload_n hx hb d_SlippedStreamsLaw_law_120 rfl (lv_at hl 1 rfl) ?_
          refine lv_aload_n hx hb d_SlippedStreamsLaw_law_121 rfl (lv_at hl 0 rfl) ?_
          refine lv_iload_n hx hb d_SlippedStreamsLaw_law_122 rfl (lv_at hl 3 rfl) ?_
          refine lv_iconst (v := 1) hx hb d_SlippedStreamsLaw_law_123 (by decide) ?_
          refine lv_iadd hx hb d_SlippedStreamsLaw_law_124 ?_
          obtain ⟨hi, h⟩ := gil_e h
          refine va_sld hx hb hX hbl hbA hS hi d_SlippedStreamsLaw_law_125 ?_
          refine lv_aload_n hx hb d_SlippedStreamsLaw_law_126 rfl (lv_at hl 0 rfl) ?_
          refine lv_iload_n hx hb d_SlippedStreamsLaw_law_127 rfl (lv_at hl 3 rfl) ?_
          refine lv_iconst (v := 2) hx hb d_SlippedStreamsLaw_law_128 (by decide) ?_
          refine lv_iadd hx hb d_SlippedStreamsLaw_law_129 ?_
          obtain ⟨hi, h⟩ := gil_e h
          refine va_sld hx hb hX hbl hbA hS hi d_SlippedStreamsLaw_law_130 ?_
          refine lv_aload_n hx hb d_SlippedStreamsLaw_law_131 rfl (lv_at hl 0 rfl) ?_
          refine lv_iload_n hx hb d_SlippedStreamsLaw_law_132 rfl (lv_at hl 3 rfl) ?_
          refine lv_iconst (v := 3) hx hb d_SlippedStreamsLaw_law_133 (by decide) ?_
          refine lv_iadd hx hb d_SlippedStreamsLaw_law_134 ?_
          obtain ⟨hi, h⟩ := gil_e h
          refine va_sld hx hb hX hbl hbA hS hi d_SlippedStreamsLaw_law_135 ?_
          refine lv_aload_n hx hb d_SlippedStreamsLaw_law_136 rfl (lv_at hl 0 rfl) ?_
          refine lv_iload_n hx hb d_SlippedStreamsLaw_law_137 rfl (lv_at hl 3 rfl) ?_
          refine lv_iconst (v := 4) hx hb d_SlippedStreamsLaw_law_138 (by decide) ?_
          refine lv_iadd hx hb d_SlippedStreamsLaw_law_139 ?_
          obtain ⟨hi, h⟩ := gil_e h
          refine va_sld hx hb hX hbl hbA hS hi d_SlippedStreamsLaw_law_140 ?_
          obtain ⟨r1, z1, hc1, h⟩ := oln_e h
          refine q2_i (va_runV (As := [.int (xs (y1 + 1).toNatClampNeg), .int (xs (y1 + 2).toNatClampNeg), .int (xs (y1 + 3).toNatClampNeg), .int (xs (y1 + 4).toNatClampNeg)]) (rest := []) ⟨hx, hb, hml, hown, hts⟩ (c_x_add l dC dI cI cZ ad z0 (xs (y1 + 1).toNatClampNeg) (xs (y1 + 2).toNatClampNeg) (xs (y1 + 3).toNatClampNeg) (xs (y1 + 4).toNatClampNeg) _ hc1 _) (cwV 4 hts (q_goodL _ (q_l4 k_383 k_384 k_385 k_53) k_386) rfl rfl rfl (by decide +kernel) ⟨Nat.le_of_ble_eq_true rfl, Nat.le_of_ble_eq_true rfl⟩) (q_preV qok hKK hPx hDx (va_recv (ci := 0) (q0 := 0) hK hPx rfl rfl)) rfl rfl hl.1 rfl (lv_room (Nat.le_of_ble_eq_true rfl)) d_SlippedStreamsLaw_law_141 ⟨hce, hsl⟩) hDx hPm hap hS hA (fun H locs hPx hDx hPm hap hS => ?_)
          refine lv_aload_n hx hb d_SlippedStreamsLaw_law_144 rfl (lv_at hl 2 rfl) ?_
          refine lv_aload_n hx hb d_SlippedStreamsLaw_law_145 rfl (lv_at hl 0 rfl) ?_
          refine lv_iload_n hx hb d_SlippedStreamsLaw_law_146 rfl (lv_at hl 3 rfl) ?_
          refine lv_iconst (v := 1) hx hb d_SlippedStreamsLaw_law_147 (by decide) ?_
          refine lv_iadd hx hb d_SlippedStreamsLaw_law_148 ?_
          obtain ⟨hi, h⟩ := gil_e h
          refine va_sld hx hb hX hbl hbA hS hi d_SlippedStreamsLaw_law_149 ?_
          refine lv_aload_n hx hb d_SlippedStreamsLaw_law_150 rfl (lv_at hl 0 rfl) ?_
          refine lv_iload_n hx hb d_SlippedStreamsLaw_law_151 rfl (lv_at hl 3 rfl) ?_
          refine lv_iconst (v := 2) hx hb d_SlippedStreamsLaw_law_152 (by decide) ?_
          refine lv_iadd hx hb d_SlippedStreamsLaw_law_153 ?_
          obtain ⟨hi, h⟩ := gil_e h
          refine va_sld hx hb hX hbl hbA hS hi d_SlippedStreamsLaw_law_154 ?_
          refine lv_aload_n hx hb d_SlippedStreamsLaw_law_155 rfl (lv_at hl 0 rfl) ?_
          refine lv_iload_n hx hb d_SlippedStreamsLaw_law_156 rfl (lv_at hl 3 rfl) ?_
          refine lv_iconst (v := 3) hx hb d_SlippedStreamsLaw_law_157 (by decide) ?_
          refine lv_iadd hx hb d_SlippedStreamsLaw_law_158 ?_
          obtain ⟨hi, h⟩ := gil_e h
          refine va_sld hx hb hX hbl hbA hS hi d_SlippedStreamsLaw_law_159 ?_
          refine lv_aload_n hx hb d_SlippedStreamsLaw_law_160 rfl (lv_at hl 0 rfl) ?_
          refine lv_iload_n hx hb d_SlippedStreamsLaw_law_161 rfl (lv_at hl 3 rfl) ?_
          refine lv_iconst (v := 4) hx hb d_SlippedStreamsLaw_law_162 (by decide) ?_
          refine lv_iadd hx hb d_SlippedStreamsLaw_law_163 ?_
          obtain ⟨hi, h⟩ := gil_e h
          refine va_sld hx hb hX hbl hbA hS hi d_SlippedStreamsLaw_law_164 ?_
          obtain ⟨r2, t2, hc2, h⟩ := oln_e h
          refine q2_i (va_runV (As := [.int (xs (y1 + 1).toNatClampNeg), .int (xs (y1 + 2).toNatClampNeg), .int (xs (y1 + 3).toNatClampNeg), .int (xs (y1 + 4).toNatClampNeg)]) (rest := [.int r1]) ⟨hx, hb, hml, hown, hts⟩ (c_m_add l dC dI cI cZ bd t0 (xs (y1 + 1).toNatClampNeg) (xs (y1 + 2).toNatClampNeg) (xs (y1 + 3).toNatClampNeg) (xs (y1 + 4).toNatClampNeg) _ hc2 _) (cwV 4 hts (q_goodL _ (q_l4 k_895 k_896 k_897 k_64) k_898) rfl rfl rfl (by decide +kernel) ⟨Nat.le_of_ble_eq_true rfl, Nat.le_of_ble_eq_true rfl⟩) (q_preV qok hKK hPm hDm (va_recv (ci := 9) (q0 := 0) hK hPm rfl rfl)) rfl rfl hl.1 rfl (lv_room (Nat.le_of_ble_eq_true rfl)) d_SlippedStreamsLaw_law_165 ⟨hce, hsl⟩) hDm hPx hap.symm hS hA (fun H locs hPm hDm hPx hap hS => ?_)
          replace hap := hap.symm
          refine lv_icmp_eq (tgt := 614) hx hb d_SlippedStreamsLaw_law_168 (by decide) (fun hc => ?_) (fun hc => ?_)
          · replace h := il_t hc h
            exact jp_614 z1 t2 y1 0 0 0 _ _ _ h hPx hDx hPm hDm hap hS (lv_sub hl [0, 1, 2, 3] rfl)
          · replace h := il_f hc h
            refine lv_iconst (v := 0) hx hb d_SlippedStreamsLaw_law_171 (by decide) ?_
            exact absurd (Option.some.inj h) (by decide)
        · replace h := il_f hc0 h
          by_cases hc1 : (xs y1.toNatClampNeg) &&& 31 = 1
          · replace h := il_t hc1 h
            refine lv_tableIn (tgt := 173) (off := 141) hx hb d_SlippedStreamsLaw_law_32 (by rw [hc1]; decide) (by rw [hc1]; decide) (by rw [hc1]; rfl) (by decide) ?_
            refine lv_aload_n hx hb d_SlippedStreamsLaw_law_173 rfl (lv_at hl 1 rfl) ?_
            refine lv_aload_n hx hb d_SlippedStreamsLaw_law_174 rfl (lv_at hl 0 rfl) ?_
            refine lv_iload_n hx hb d_SlippedStreamsLaw_law_175 rfl (lv_at hl 3 rfl) ?_
            refine lv_iconst (v := 1) hx hb d_SlippedStreamsLaw_law_176 (by decide) ?_
            refine lv_iadd hx hb d_SlippedStreamsLaw_law_177 ?_
            obtain ⟨hi, h⟩ := gil_e h
            refine va_sld hx hb hX hbl hbA hS hi d_SlippedStreamsLaw_law_178 ?_
            refine lv_aload_n hx hb d_SlippedStreamsLaw_law_179 rfl (lv_at hl 0 rfl) ?_
            refine lv_iload_n hx hb d_SlippedStreamsLaw_law_180 rfl (lv_at hl 3 rfl) ?_
            refine lv_iconst (v := 2) hx hb d_SlippedStreamsLaw_law_181 (by decide) ?_
            refine lv_iadd hx hb d_SlippedStreamsLaw_law_182 ?_
            obtain ⟨hi, h⟩ := gil_e h
            refine va_sld hx hb hX hbl hbA hS hi d_SlippedStreamsLaw_law_183 ?_
            obtain ⟨r3, z3, hc3, h⟩ := oln_e h
            refine q2_v (va_runV (As := [.int (xs (y1 + 1).toNatClampNeg), .int (xs (y1 + 2).toNatClampNeg)]) (rest := []) ⟨hx, hb, hml, hown, hts⟩ (c_x_fill l dC dI cI cZ ad z0 (xs (y1 + 1).toNatClampNeg) (xs (y1 + 2).toNatClampNeg) _ hc3 _) (cwV 2 hts (q_goodL _ (q_l4 k_486 k_487 k_488 k_53) k_489) rfl rfl rfl (by decide +kernel) ⟨Nat.le_of_ble_eq_true rfl, Nat.le_of_ble_eq_true rfl⟩) (q_preV qok hKK hPx hDx (va_recv (ci := 0) (q0 := 0) hK hPx rfl rfl)) rfl rfl hl.1 rfl (lv_room (Nat.le_of_ble_eq_true rfl)) d_SlippedStreamsLaw_law_184 ⟨hce, hsl⟩) hDx hPm hap hS hA (fun H locs hPx hDx hPm hap hS => ?_)
            refine lv_aload_n hx hb d_SlippedStreamsLaw_law_187 rfl (lv_at hl 2 rfl) ?_
            refine lv_aload_n hx hb d_SlippedStreamsLaw_law_188 rfl (lv_at hl 0 rfl) ?_
            refine lv_iload_n hx hb d_SlippedStreamsLaw_law_189 rfl (lv_at hl 3 rfl) ?_
            refine lv_iconst (v := 1) hx hb d_SlippedStreamsLaw_law_190 (by decide) ?_
            refine lv_iadd hx hb d_SlippedStreamsLaw_law_191 ?_
            obtain ⟨hi, h⟩ := gil_e h
            refine va_sld hx hb hX hbl hbA hS hi d_SlippedStreamsLaw_law_192 ?_
            refine lv_aload_n hx hb d_SlippedStreamsLaw_law_193 rfl (lv_at hl 0 rfl) ?_
            refine lv_iload_n hx hb d_SlippedStreamsLaw_law_194 rfl (lv_at hl 3 rfl) ?_
            refine lv_iconst (v := 2) hx hb d_SlippedStreamsLaw_law_195 (by decide) ?_
            refine lv_iadd hx hb d_SlippedStreamsLaw_law_196 ?_
            obtain ⟨hi, h⟩ := gil_e h
            refine va_sld hx hb hX hbl hbA hS hi d_SlippedStreamsLaw_law_197 ?_
            obtain ⟨r4, t4, hc4, h⟩ := oln_e h
            refine q2_v (va_runV (As := [.int (xs (y1 + 1).toNatClampNeg), .int (xs (y1 + 2).toNatClampNeg)]) (rest := []) ⟨hx, hb, hml, hown, hts⟩ (c_m_fill l dC dI cI cZ bd t0 (xs (y1 + 1).toNatClampNeg) (xs (y1 + 2).toNatClampNeg) _ hc4 _) (cwV 2 hts (q_goodL _ (q_l4 k_941 k_942 k_943 k_64) k_944) rfl rfl rfl (by decide +kernel) ⟨Nat.le_of_ble_eq_true rfl, Nat.le_of_ble_eq_true rfl⟩) (q_preV qok hKK hPm hDm (va_recv (ci := 9) (q0 := 0) hK hPm rfl rfl)) rfl rfl hl.1 rfl (lv_room (Nat.le_of_ble_eq_true rfl)) d_SlippedStreamsLaw_law_198 ⟨hce, hsl⟩) hDm hPx hap.symm hS hA (fun H locs hPm hDm hPx hap hS => ?_)
            replace hap := hap.symm
            refine lv_goto (tgt := 614) hx hb d_SlippedStreamsLaw_law_201 (by decide) ?_
            exact jp_614 z3 t4 y1 0 0 0 _ _ _ h hPx hDx hPm hDm hap hS (lv_sub hl [0, 1, 2, 3] rfl)
          · replace h := il_f hc1 h
            by_cases hc2 : (xs y1.toNatClampNeg) &&& 31 = 2
            · replace h := il_t hc2 h
              refine lv_tableIn (tgt := 204) (off := 172) hx hb d_SlippedStreamsLaw_law_32 (by rw [hc2]; decide) (by rw [hc2]; decide) (by rw [hc2]; rfl) (by decide) ?_
              refine lv_aload_n hx hb d_SlippedStreamsLaw_law_204 rfl (lv_at hl 1 rfl) ?_
              obtain ⟨r5, z5, hc5, h⟩ := oln_e h
              refine q2_i (va_runV (As := []) (rest := []) ⟨hx, hb, hml, hown, hts⟩ (c_x_clear l dC dI cI cZ ad z0 _ hc5 _) (cwV 0 hts (q_goodL _ (q_l4 k_490 k_491 k_492 k_53) k_493) rfl rfl rfl (by decide +kernel) ⟨Nat.le_of_ble_eq_true rfl, Nat.le_of_ble_eq_true rfl⟩) (q_preV qok hKK hPx hDx (va_recv (ci := 0) (q0 := 0) hK hPx rfl rfl)) rfl rfl hl.1 rfl (lv_room (Nat.le_of_ble_eq_true rfl)) d_SlippedStreamsLaw_law_205 ⟨hce, hsl⟩) hDx hPm hap hS hA (fun H locs hPx hDx hPm hap hS => ?_)
              refine lv_aload_n hx hb d_SlippedStreamsLaw_law_208 rfl (lv_at hl 2 rfl) ?_
              obtain ⟨r6, t6, hc6, h⟩ := oln_e h
              refine q2_i (va_runV (As := []) (rest := [.int r5]) ⟨hx, hb, hml, hown, hts⟩ (c_m_clear l dC dI cI cZ bd t0 _ hc6 _) (cwV 0 hts (q_goodL _ (q_l4 k_945 k_946 k_947 k_64) k_948) rfl rfl rfl (by decide +kernel) ⟨Nat.le_of_ble_eq_true rfl, Nat.le_of_ble_eq_true rfl⟩) (q_preV qok hKK hPm hDm (va_recv (ci := 9) (q0 := 0) hK hPm rfl rfl)) rfl rfl hl.1 rfl (lv_room (Nat.le_of_ble_eq_true rfl)) d_SlippedStreamsLaw_law_209 ⟨hce, hsl⟩) hDm hPx hap.symm hS hA (fun H locs hPm hDm hPx hap hS => ?_)
              replace hap := hap.symm
              refine lv_icmp_eq (tgt := 614) hx hb d_SlippedStreamsLaw_law_212 (by decide) (fun hc => ?_) (fun hc => ?_)
              · replace h := il_t hc h
                exact jp_614 z5 t6 y1 0 0 0 _ _ _ h hPx hDx hPm hDm hap hS (lv_sub hl [0, 1, 2, 3] rfl)
              · replace h := il_f hc h
                refine lv_iconst (v := 0) hx hb d_SlippedStreamsLaw_law_215 (by decide) ?_
                exact absurd (Option.some.inj h) (by decide)
            · replace h := il_f hc2 h
              by_cases hc3 : (xs y1.toNatClampNeg) &&& 31 = 3
              · replace h := il_t hc3 h
                refine lv_tableIn (tgt := 217) (off := 185) hx hb d_SlippedStreamsLaw_law_32 (by rw [hc3]; decide) (by rw [hc3]; decide) (by rw [hc3]; rfl) (by decide) ?_
                refine lv_aload_n hx hb d_SlippedStreamsLaw_law_217 rfl (lv_at hl 1 rfl) ?_
                obtain ⟨r7, z7, hc7, h⟩ := oln_e h
                refine q2_v (va_runV (As := []) (rest := []) ⟨hx, hb, hml, hown, hts⟩ (c_x_reset l dC dI cI cZ ad z0 _ hc7 _) (cwV 0 hts (q_goodL _ (q_l4 k_498 k_499 k_500 k_53) k_501) rfl rfl rfl (by decide +kernel) ⟨Nat.le_of_ble_eq_true rfl, Nat.le_of_ble_eq_true rfl⟩) (q_preV qok hKK hPx hDx (va_recv (ci := 0) (q0 := 0) hK hPx rfl rfl)) rfl rfl hl.1 rfl (lv_room (Nat.le_of_ble_eq_true rfl)) d_SlippedStreamsLaw_law_218 ⟨hce, hsl⟩) hDx hPm hap hS hA (fun H locs hPx hDx hPm hap hS => ?_)
                refine lv_aload_n hx hb d_SlippedStreamsLaw_law_221 rfl (lv_at hl 2 rfl) ?_
                obtain ⟨r8, t8, hc8, h⟩ := oln_e h
                refine q2_v (va_runV (As := []) (rest := []) ⟨hx, hb, hml, hown, hts⟩ (c_m_reset l dC dI cI cZ bd t0 _ hc8 _) (cwV 0 hts (q_goodL _ (q_l4 k_949 k_910 k_911 k_64) k_912) rfl rfl rfl (by decide +kernel) ⟨Nat.le_of_ble_eq_true rfl, Nat.le_of_ble_eq_true rfl⟩) (q_preV qok hKK hPm hDm (va_recv (ci := 9) (q0 := 0) hK hPm rfl rfl)) rfl rfl hl.1 rfl (lv_room (Nat.le_of_ble_eq_true rfl)) d_SlippedStreamsLaw_law_222 ⟨hce, hsl⟩) hDm hPx hap.symm hS hA (fun H locs hPm hDm hPx hap hS => ?_)
                replace hap := hap.symm
                refine lv_goto (tgt := 614) hx hb d_SlippedStreamsLaw_law_225 (by decide) ?_
                exact jp_614 z7 t8 y1 0 0 0 _ _ _ h hPx hDx hPm hDm hap hS (lv_sub hl [0, 1, 2, 3] rfl)
              · replace h := il_f hc3 h
                by_cases hc4 : (xs y1.toNatClampNeg) &&& 31 = 4
                · replace h := il_t hc4 h
                  refine lv_tableIn (tgt := 228) (off := 196) hx hb d_SlippedStreamsLaw_law_32 (by rw [hc4]; decide) (by rw [hc4]; decide) (by rw [hc4]; rfl) (by decide) ?_
                  refine lv_aload_n hx hb d_SlippedStreamsLaw_law_228 rfl (lv_at hl 1 rfl) ?_
                  refine lv_aload_n hx hb d_SlippedStreamsLaw_law_229 rfl (lv_at hl 0 rfl) ?_
                  refine lv_iload_n hx hb d_SlippedStreamsLaw_law_230 rfl (lv_at hl 3 rfl) ?_
                  refine lv_iconst (v := 1) hx hb d_SlippedStreamsLaw_law_231 (by decide) ?_
                  refine lv_iadd hx hb d_SlippedStreamsLaw_law_232 ?_
                  obtain ⟨hi, h⟩ := gil_e h
                  refine va_sld hx hb hX hbl hbA hS hi d_SlippedStreamsLaw_law_233 ?_
                  obtain ⟨r9, z9, hc9, h⟩ := oln_e h
                  refine q2_i (va_runV (As := [.int (xs (y1 + 1).toNatClampNeg)]) (rest := []) ⟨hx, hb, hml, hown, hts⟩ (c_x_streamOf l dC dI cI cZ ad z0 (xs (y1 + 1).toNatClampNeg) _ hc9 _) (cwV 1 hts (q_goodL _ (q_l4 k_502 k_503 k_504 k_53) k_505) rfl rfl rfl (by decide +kernel) ⟨Nat.le_of_ble_eq_true rfl, Nat.le_of_ble_eq_true rfl⟩) (q_preV qok hKK hPx hDx (va_recv (ci := 0) (q0 := 0) hK hPx rfl rfl)) rfl rfl hl.1 rfl (lv_room (Nat.le_of_ble_eq_true rfl)) d_SlippedStreamsLaw_law_234 ⟨hce, hsl⟩) hDx hPm hap hS hA (fun H locs hPx hDx hPm hap hS => ?_)
                  refine lv_aload_n hx hb d_SlippedStreamsLaw_law_237 rfl (lv_at hl 2 rfl) ?_
                  refine lv_aload_n hx hb d_SlippedStreamsLaw_law_238 rfl (lv_at hl 0 rfl) ?_
                  refine lv_iload_n hx hb d_SlippedStreamsLaw_law_239 rfl (lv_at hl 3 rfl) ?_
                  refine lv_iconst (v := 1) hx hb d_SlippedStreamsLaw_law_240 (by decide) ?_
                  refine lv_iadd hx hb d_SlippedStreamsLaw_law_241 ?_
                  obtain ⟨hi, h⟩ := gil_e h
                  refine va_sld hx hb hX hbl hbA hS hi d_SlippedStreamsLaw_law_242 ?_
                  obtain ⟨r10, t10, hc10, h⟩ := oln_e h
                  refine q2_i (va_runV (As := [.int (xs (y1 + 1).toNatClampNeg)]) (rest := [.int r9]) ⟨hx, hb, hml, hown, hts⟩ (c_m_streamOf l dC dI cI cZ bd t0 (xs (y1 + 1).toNatClampNeg) _ hc10 _) (cwV 1 hts (q_goodL _ (q_l4 k_1043 k_1044 k_1045 k_64) k_1046) rfl rfl rfl (by decide +kernel) ⟨Nat.le_of_ble_eq_true rfl, Nat.le_of_ble_eq_true rfl⟩) (q_preV qok hKK hPm hDm (va_recv (ci := 9) (q0 := 0) hK hPm rfl rfl)) rfl rfl hl.1 rfl (lv_room (Nat.le_of_ble_eq_true rfl)) d_SlippedStreamsLaw_law_243 ⟨hce, hsl⟩) hDm hPx hap.symm hS hA (fun H locs hPm hDm hPx hap hS => ?_)
                  replace hap := hap.symm
                  refine lv_icmp_eq (tgt := 614) hx hb d_SlippedStreamsLaw_law_246 (by decide) (fun hc => ?_) (fun hc => ?_)
                  · replace h := il_t hc h
                    exact jp_614 z9 t10 y1 0 0 0 _ _ _ h hPx hDx hPm hDm hap hS (lv_sub hl [0, 1, 2, 3] rfl)
                  · replace h := il_f hc h
                    refine lv_iconst (v := 0) hx hb d_SlippedStreamsLaw_law_249 (by decide) ?_
                    exact absurd (Option.some.inj h) (by decide)
                · replace h := il_f hc4 h
                  by_cases hc5 : (xs y1.toNatClampNeg) &&& 31 = 5
                  · replace h := il_t hc5 h
                    refine lv_tableIn (tgt := 251) (off := 219) hx hb d_SlippedStreamsLaw_law_32 (by rw [hc5]; decide) (by rw [hc5]; decide) (by rw [hc5]; rfl) (by decide) ?_
                    refine lv_aload_n hx hb d_SlippedStreamsLaw_law_251 rfl (lv_at hl 1 rfl) ?_
                    obtain ⟨r11, z11, hc11, h⟩ := oln_e h
                    refine q2_i (va_runV (As := []) (rest := []) ⟨hx, hb, hml, hown, hts⟩ (c_x_addressRegisters l dC dI cI cZ ad z0 _ hc11 _) (cwV 0 hts (q_goodL _ (q_l4 k_506 k_507 k_508 k_53) k_509) rfl rfl rfl (by decide +kernel) ⟨Nat.le_of_ble_eq_true rfl, Nat.le_of_ble_eq_true rfl⟩) (q_preV qok hKK hPx hDx (va_recv (ci := 0) (q0 := 0) hK hPx rfl rfl)) rfl rfl hl.1 rfl (lv_room (Nat.le_of_ble_eq_true rfl)) d_SlippedStreamsLaw_law_252 ⟨hce, hsl⟩) hDx hPm hap hS hA (fun H locs hPx hDx hPm hap hS => ?_)
                    refine lv_aload_n hx hb d_SlippedStreamsLaw_law_255 rfl (lv_at hl 2 rfl) ?_
                    obtain ⟨r12, t12, hc12, h⟩ := oln_e h
                    refine q2_i (va_runV (As := []) (rest := [.int r11]) ⟨hx, hb, hml, hown, hts⟩ (c_m_addressRegisters l dC dI cI cZ bd t0 _ hc12 _) (cwV 0 hts (q_goodL _ (q_l4 k_1047 k_1048 k_1049 k_64) k_1050) rfl rfl rfl (by decide +kernel) ⟨Nat.le_of_ble_eq_true rfl, Nat.le_of_ble_eq_true rfl⟩) (q_preV qok hKK hPm hDm (va_recv (ci := 9) (q0 := 0) hK hPm rfl rfl)) rfl rfl hl.1 rfl (lv_room (Nat.le_of_ble_eq_true rfl)) d_SlippedStreamsLaw_law_256 ⟨hce, hsl⟩) hDm hPx hap.symm hS hA (fun H locs hPm hDm hPx hap hS => ?_)
                    replace hap := hap.symm
                    refine lv_icmp_eq (tgt := 614) hx hb d_SlippedStreamsLaw_law_259 (by decide) (fun hc => ?_) (fun hc => ?_)
                    · replace h := il_t hc h
                      exact jp_614 z11 t12 y1 0 0 0 _ _ _ h hPx hDx hPm hDm hap hS (lv_sub hl [0, 1, 2, 3] rfl)
                    · replace h := il_f hc h
                      refine lv_iconst (v := 0) hx hb d_SlippedStreamsLaw_law_262 (by decide) ?_
                      exact absurd (Option.some.inj h) (by decide)
                  · replace h := il_f hc5 h
                    by_cases hc6 : (xs y1.toNatClampNeg) &&& 31 = 6
                    · replace h := il_t hc6 h
                      refine lv_tableIn (tgt := 264) (off := 232) hx hb d_SlippedStreamsLaw_law_32 (by rw [hc6]; decide) (by rw [hc6]; decide) (by rw [hc6]; rfl) (by decide) ?_
                      refine lv_aload_n hx hb d_SlippedStreamsLaw_law_264 rfl (lv_at hl 1 rfl) ?_
                      refine lv_aload_n hx hb d_SlippedStreamsLaw_law_265 rfl (lv_at hl 0 rfl) ?_
                      refine lv_iload_n hx hb d_SlippedStreamsLaw_law_266 rfl (lv_at hl 3 rfl) ?_
                      refine lv_iconst (v := 1) hx hb d_SlippedStreamsLaw_law_267 (by decide) ?_
                      refine lv_iadd hx hb d_SlippedStreamsLaw_law_268 ?_
                      obtain ⟨hi, h⟩ := gil_e h
                      refine va_sld hx hb hX hbl hbA hS hi d_SlippedStreamsLaw_law_269 ?_
                      obtain ⟨r13, z13, hc13, h⟩ := oln_e h
                      refine q2_i (va_runV (As := [.int (xs (y1 + 1).toNatClampNeg)]) (rest := []) ⟨hx, hb, hml, hown, hts⟩ (c_x_address l dC dI cI cZ ad z0 (xs (y1 + 1).toNatClampNeg) _ hc13 _) (cwV 1 hts (q_goodL _ (q_l4 k_516 k_517 k_518 k_53) k_519) rfl rfl rfl (by decide +kernel) ⟨Nat.le_of_ble_eq_true rfl, Nat.le_of_ble_eq_true rfl⟩) (q_preV qok hKK hPx hDx (va_recv (ci := 0) (q0 := 0) hK hPx rfl rfl)) rfl rfl hl.1 rfl (lv_room (Nat.le_of_ble_eq_true rfl)) d_SlippedStreamsLaw_law_270 ⟨hce, hsl⟩) hDx hPm hap hS hA (fun H locs hPx hDx hPm hap hS => ?_)
                      refine lv_aload_n hx hb d_SlippedStreamsLaw_law_273 rfl (lv_at hl 2 rfl) ?_
                      refine lv_aload_n hx hb d_SlippedStreamsLaw_law_274 rfl (lv_at hl 0 rfl) ?_
                      refine lv_iload_n hx hb d_SlippedStreamsLaw_law_275 rfl (lv_at hl 3 rfl) ?_
                      refine lv_iconst (v := 1) hx hb d_SlippedStreamsLaw_law_276 (by decide) ?_
                      refine lv_iadd hx hb d_SlippedStreamsLaw_law_277 ?_
                      obtain ⟨hi, h⟩ := gil_e h
                      refine va_sld hx hb hX hbl hbA hS hi d_SlippedStreamsLaw_law_278 ?_
                      obtain ⟨r14, t14, hc14, h⟩ := oln_e h
                      refine q2_i (va_runV (As := [.int (xs (y1 + 1).toNatClampNeg)]) (rest := [.int r13]) ⟨hx, hb, hml, hown, hts⟩ (c_m_address l dC dI cI cZ bd t0 (xs (y1 + 1).toNatClampNeg) _ hc14 _) (cwV 1 hts (q_goodL _ (q_l4 k_950 k_951 k_952 k_64) k_953) rfl rfl rfl (by decide +kernel) ⟨Nat.le_of_ble_eq_true rfl, Nat.le_of_ble_eq_true rfl⟩) (q_preV qok hKK hPm hDm (va_recv (ci := 9) (q0 := 0) hK hPm rfl rfl)) rfl rfl hl.1 rfl (lv_room (Nat.le_of_ble_eq_true rfl)) d_SlippedStreamsLaw_law_279 ⟨hce, hsl⟩) hDm hPx hap.symm hS hA (fun H locs hPm hDm hPx hap hS => ?_)
                      replace hap := hap.symm
                      refine lv_icmp_eq (tgt := 614) hx hb d_SlippedStreamsLaw_law_282 (by decide) (fun hc => ?_) (fun hc => ?_)
                      · replace h := il_t hc h
                        exact jp_614 z13 t14 y1 0 0 0 _ _ _ h hPx hDx hPm hDm hap hS (lv_sub hl [0, 1, 2, 3] rfl)
                      · replace h := il_f hc h
                        refine lv_iconst (v := 0) hx hb d_SlippedStreamsLaw_law_285 (by decide) ?_
                        exact absurd (Option.some.inj h) (by decide)
                    · replace h := il_f hc6 h
                      by_cases hc7 : (xs y1.toNatClampNeg) &&& 31 = 7
                      · replace h := il_t hc7 h
                        refine lv_tableIn (tgt := 287) (off := 255) hx hb d_SlippedStreamsLaw_law_32 (by rw [hc7]; decide) (by rw [hc7]; decide) (by rw [hc7]; rfl) (by decide) ?_
                        refine lv_aload_n hx hb d_SlippedStreamsLaw_law_287 rfl (lv_at hl 1 rfl) ?_
                        refine lv_aload_n hx hb d_SlippedStreamsLaw_law_288 rfl (lv_at hl 0 rfl) ?_
                        refine lv_iload_n hx hb d_SlippedStreamsLaw_law_289 rfl (lv_at hl 3 rfl) ?_
                        refine lv_iconst (v := 1) hx hb d_SlippedStreamsLaw_law_290 (by decide) ?_
                        refine lv_iadd hx hb d_SlippedStreamsLaw_law_291 ?_
                        obtain ⟨hi, h⟩ := gil_e h
                        refine va_sld hx hb hX hbl hbA hS hi d_SlippedStreamsLaw_law_292 ?_
                        obtain ⟨r15, z15, hc15, h⟩ := oln_e h
                        refine q2_i (va_runV (As := [.int (xs (y1 + 1).toNatClampNeg)]) (rest := []) ⟨hx, hb, hml, hown, hts⟩ (c_x_value l dC dI cI cZ ad z0 (xs (y1 + 1).toNatClampNeg) _ hc15 _) (cwV 1 hts (q_goodL _ (q_l4 k_734 k_735 k_736 k_53) k_737) rfl rfl rfl (by decide +kernel) ⟨Nat.le_of_ble_eq_true rfl, Nat.le_of_ble_eq_true rfl⟩) (q_preV qok hKK hPx hDx (va_recv (ci := 0) (q0 := 0) hK hPx rfl rfl)) rfl rfl hl.1 rfl (lv_room (Nat.le_of_ble_eq_true rfl)) d_SlippedStreamsLaw_law_293 ⟨hce, hsl⟩) hDx hPm hap hS hA (fun H locs hPx hDx hPm hap hS => ?_)
                        refine lv_aload_n hx hb d_SlippedStreamsLaw_law_296 rfl (lv_at hl 2 rfl) ?_
                        refine lv_aload_n hx hb d_SlippedStreamsLaw_law_297 rfl (lv_at hl 0 rfl) ?_
                        refine lv_iload_n hx hb d_SlippedStreamsLaw_law_298 rfl (lv_at hl 3 rfl) ?_
                        refine lv_iconst (v := 1) hx hb d_SlippedStreamsLaw_law_299 (by decide) ?_
                        refine lv_iadd hx hb d_SlippedStreamsLaw_law_300 ?_
                        obtain ⟨hi, h⟩ := gil_e h
                        refine va_sld hx hb hX hbl hbA hS hi d_SlippedStreamsLaw_law_301 ?_
                        obtain ⟨r16, t16, hc16, h⟩ := oln_e h
                        refine q2_i (va_runV (As := [.int (xs (y1 + 1).toNatClampNeg)]) (rest := [.int r15]) ⟨hx, hb, hml, hown, hts⟩ (c_m_value l dC dI cI cZ bd t0 (xs (y1 + 1).toNatClampNeg) _ hc16 _) (cwV 1 hts (q_goodL _ (q_l4 k_1007 k_1008 k_1009 k_64) k_1010) rfl rfl rfl (by decide +kernel) ⟨Nat.le_of_ble_eq_true rfl, Nat.le_of_ble_eq_true rfl⟩) (q_preV qok hKK hPm hDm (va_recv (ci := 9) (q0 := 0) hK hPm rfl rfl)) rfl rfl hl.1 rfl (lv_room (Nat.le_of_ble_eq_true rfl)) d_SlippedStreamsLaw_law_302 ⟨hce, hsl⟩) hDm hPx hap.symm hS hA (fun H locs hPm hDm hPx hap hS => ?_)
                        replace hap := hap.symm
                        refine lv_icmp_eq (tgt := 614) hx hb d_SlippedStreamsLaw_law_305 (by decide) (fun hc => ?_) (fun hc => ?_)
                        · replace h := il_t hc h
                          exact jp_614 z15 t16 y1 0 0 0 _ _ _ h hPx hDx hPm hDm hap hS (lv_sub hl [0, 1, 2, 3] rfl)
                        · replace h := il_f hc h
                          refine lv_iconst (v := 0) hx hb d_SlippedStreamsLaw_law_308 (by decide) ?_
                          exact absurd (Option.some.inj h) (by decide)
                      · replace h := il_f hc7 h
                        by_cases hc8 : (xs y1.toNatClampNeg) &&& 31 = 8
                        · replace h := il_t hc8 h
                          refine lv_tableIn (tgt := 310) (off := 278) hx hb d_SlippedStreamsLaw_law_32 (by rw [hc8]; decide) (by rw [hc8]; decide) (by rw [hc8]; rfl) (by decide) ?_
                          refine lv_aload_n hx hb d_SlippedStreamsLaw_law_310 rfl (lv_at hl 1 rfl) ?_
                          refine lv_aload_n hx hb d_SlippedStreamsLaw_law_311 rfl (lv_at hl 0 rfl) ?_
                          refine lv_iload_n hx hb d_SlippedStreamsLaw_law_312 rfl (lv_at hl 3 rfl) ?_
                          refine lv_iconst (v := 1) hx hb d_SlippedStreamsLaw_law_313 (by decide) ?_
                          refine lv_iadd hx hb d_SlippedStreamsLaw_law_314 ?_
                          obtain ⟨hi, h⟩ := gil_e h
                          refine va_sld hx hb hX hbl hbA hS hi d_SlippedStreamsLaw_law_315 ?_
                          obtain ⟨r17, z17, hc17, h⟩ := oln_e h
                          refine q2_i (va_runV (As := [.int (xs (y1 + 1).toNatClampNeg)]) (rest := []) ⟨hx, hb, hml, hown, hts⟩ (c_x_both l dC dI cI cZ ad z0 (xs (y1 + 1).toNatClampNeg) _ hc17 _) (cwV 1 hts (q_goodL _ (q_l4 k_741 k_742 k_743 k_53) k_744) rfl rfl rfl (by decide +kernel) ⟨Nat.le_of_ble_eq_true rfl, Nat.le_of_ble_eq_true rfl⟩) (q_preV qok hKK hPx hDx (va_recv (ci := 0) (q0 := 0) hK hPx rfl rfl)) rfl rfl hl.1 rfl (lv_room (Nat.le_of_ble_eq_true rfl)) d_SlippedStreamsLaw_law_316 ⟨hce, hsl⟩) hDx hPm hap hS hA (fun H locs hPx hDx hPm hap hS => ?_)
                          refine lv_aload_n hx hb d_SlippedStreamsLaw_law_319 rfl (lv_at hl 2 rfl) ?_
                          refine lv_aload_n hx hb d_SlippedStreamsLaw_law_320 rfl (lv_at hl 0 rfl) ?_
                          refine lv_iload_n hx hb d_SlippedStreamsLaw_law_321 rfl (lv_at hl 3 rfl) ?_
                          refine lv_iconst (v := 1) hx hb d_SlippedStreamsLaw_law_322 (by decide) ?_
                          refine lv_iadd hx hb d_SlippedStreamsLaw_law_323 ?_
                          obtain ⟨hi, h⟩ := gil_e h
                          refine va_sld hx hb hX hbl hbA hS hi d_SlippedStreamsLaw_law_324 ?_
                          obtain ⟨r18, t18, hc18, h⟩ := oln_e h
                          refine q2_i (va_runV (As := [.int (xs (y1 + 1).toNatClampNeg)]) (rest := [.int r17]) ⟨hx, hb, hml, hown, hts⟩ (c_m_both l dC dI cI cZ bd t0 (xs (y1 + 1).toNatClampNeg) _ hc18 _) (cwV 1 hts (q_goodL _ (q_l4 k_1031 k_1032 k_1033 k_64) k_1034) rfl rfl rfl (by decide +kernel) ⟨Nat.le_of_ble_eq_true rfl, Nat.le_of_ble_eq_true rfl⟩) (q_preV qok hKK hPm hDm (va_recv (ci := 9) (q0 := 0) hK hPm rfl rfl)) rfl rfl hl.1 rfl (lv_room (Nat.le_of_ble_eq_true rfl)) d_SlippedStreamsLaw_law_325 ⟨hce, hsl⟩) hDm hPx hap.symm hS hA (fun H locs hPm hDm hPx hap hS => ?_)
                          replace hap := hap.symm
                          refine lv_icmp_eq (tgt := 614) hx hb d_SlippedStreamsLaw_law_328 (by decide) (fun hc => ?_) (fun hc => ?_)
                          · replace h := il_t hc h
                            exact jp_614 z17 t18 y1 0 0 0 _ _ _ h hPx hDx hPm hDm hap hS (lv_sub hl [0, 1, 2, 3] rfl)
                          · replace h := il_f hc h
                            refine lv_iconst (v := 0) hx hb d_SlippedStreamsLaw_law_331 (by decide) ?_
                            exact absurd (Option.some.inj h) (by decide)
                        · replace h := il_f hc8 h
                          by_cases hc9 : (xs y1.toNatClampNeg) &&& 31 = 9
                          · replace h := il_t hc9 h
                            refine lv_tableIn (tgt := 333) (off := 301) hx hb d_SlippedStreamsLaw_law_32 (by rw [hc9]; decide) (by rw [hc9]; decide) (by rw [hc9]; rfl) (by decide) ?_
                            refine lv_aload_n hx hb d_SlippedStreamsLaw_law_333 rfl (lv_at hl 1 rfl) ?_
                            refine lv_aload_n hx hb d_SlippedStreamsLaw_law_334 rfl (lv_at hl 0 rfl) ?_
                            refine lv_iload_n hx hb d_SlippedStreamsLaw_law_335 rfl (lv_at hl 3 rfl) ?_
                            refine lv_iconst (v := 1) hx hb d_SlippedStreamsLaw_law_336 (by decide) ?_
                            refine lv_iadd hx hb d_SlippedStreamsLaw_law_337 ?_
                            obtain ⟨hi, h⟩ := gil_e h
                            refine va_sld hx hb hX hbl hbA hS hi d_SlippedStreamsLaw_law_338 ?_
                            obtain ⟨r19, z19, hc19, h⟩ := oln_e h
                            refine q2_i (va_runV (As := [.int (xs (y1 + 1).toNatClampNeg)]) (rest := []) ⟨hx, hb, hml, hown, hts⟩ (c_x_place l dC dI cI cZ ad z0 (xs (y1 + 1).toNatClampNeg) _ hc19 _) (cwV 1 hts (q_goodL _ (q_l4 k_747 k_748 k_749 k_53) k_750) rfl rfl rfl (by decide +kernel) ⟨Nat.le_of_ble_eq_true rfl, Nat.le_of_ble_eq_true rfl⟩) (q_preV qok hKK hPx hDx (va_recv (ci := 0) (q0 := 0) hK hPx rfl rfl)) rfl rfl hl.1 rfl (lv_room (Nat.le_of_ble_eq_true rfl)) d_SlippedStreamsLaw_law_339 ⟨hce, hsl⟩) hDx hPm hap hS hA (fun H locs hPx hDx hPm hap hS => ?_)
                            refine lv_aload_n hx hb d_SlippedStreamsLaw_law_342 rfl (lv_at hl 2 rfl) ?_
                            refine lv_aload_n hx hb d_SlippedStreamsLaw_law_343 rfl (lv_at hl 0 rfl) ?_
                            refine lv_iload_n hx hb d_SlippedStreamsLaw_law_344 rfl (lv_at hl 3 rfl) ?_
                            refine lv_iconst (v := 1) hx hb d_SlippedStreamsLaw_law_345 (by decide) ?_
                            refine lv_iadd hx hb d_SlippedStreamsLaw_law_346 ?_
                            obtain ⟨hi, h⟩ := gil_e h
                            refine va_sld hx hb hX hbl hbA hS hi d_SlippedStreamsLaw_law_347 ?_
                            obtain ⟨r20, t20, hc20, h⟩ := oln_e h
                            refine q2_i (va_runV (As := [.int (xs (y1 + 1).toNatClampNeg)]) (rest := [.int r19]) ⟨hx, hb, hml, hown, hts⟩ (c_m_place l dC dI cI cZ bd t0 (xs (y1 + 1).toNatClampNeg) _ hc20 _) (cwV 1 hts (q_goodL _ (q_l4 k_1051 k_1052 k_1053 k_64) k_1054) rfl rfl rfl (by decide +kernel) ⟨Nat.le_of_ble_eq_true rfl, Nat.le_of_ble_eq_true rfl⟩) (q_preV qok hKK hPm hDm (va_recv (ci := 9) (q0 := 0) hK hPm rfl rfl)) rfl rfl hl.1 rfl (lv_room (Nat.le_of_ble_eq_true rfl)) d_SlippedStreamsLaw_law_348 ⟨hce, hsl⟩) hDm hPx hap.symm hS hA (fun H locs hPm hDm hPx hap hS => ?_)
                            replace hap := hap.symm
                            refine lv_icmp_eq (tgt := 614) hx hb d_SlippedStreamsLaw_law_351 (by decide) (fun hc => ?_) (fun hc => ?_)
                            · replace h := il_t hc h
                              exact jp_614 z19 t20 y1 0 0 0 _ _ _ h hPx hDx hPm hDm hap hS (lv_sub hl [0, 1, 2, 3] rfl)
                            · replace h := il_f hc h
                              refine lv_iconst (v := 0) hx hb d_SlippedStreamsLaw_law_354 (by decide) ?_
                              exact absurd (Option.some.inj h) (by decide)
                          · replace h := il_f hc9 h
                            by_cases hc10 : (xs y1.toNatClampNeg) &&& 31 = 10
                            · replace h := il_t hc10 h
                              refine lv_tableIn (tgt := 356) (off := 324) hx hb d_SlippedStreamsLaw_law_32 (by rw [hc10]; decide) (by rw [hc10]; decide) (by rw [hc10]; rfl) (by decide) ?_
                              refine lv_aload_n hx hb d_SlippedStreamsLaw_law_356 rfl (lv_at hl 1 rfl) ?_
                              obtain ⟨r21, z21, hc21, h⟩ := oln_e h
                              refine q2_i (va_runV (As := []) (rest := []) ⟨hx, hb, hml, hown, hts⟩ (c_x_slip l dC dI cI cZ ad z0 _ hc21 _) (cwV 0 hts (q_goodL _ (q_l4 k_766 k_767 k_768 k_53) k_769) rfl rfl rfl (by decide +kernel) ⟨Nat.le_of_ble_eq_true rfl, Nat.le_of_ble_eq_true rfl⟩) (q_preV qok hKK hPx hDx (va_recv (ci := 0) (q0 := 0) hK hPx rfl rfl)) rfl rfl hl.1 rfl (lv_room (Nat.le_of_ble_eq_true rfl)) d_SlippedStreamsLaw_law_357 ⟨hce, hsl⟩) hDx hPm hap hS hA (fun H locs hPx hDx hPm hap hS => ?_)
                              refine lv_aload_n hx hb d_SlippedStreamsLaw_law_360 rfl (lv_at hl 2 rfl) ?_
                              obtain ⟨r22, t22, hc22, h⟩ := oln_e h
                              refine q2_i (va_runV (As := []) (rest := [.int r21]) ⟨hx, hb, hml, hown, hts⟩ (c_m_slip l dC dI cI cZ bd t0 _ hc22 _) (cwV 0 hts (q_goodL _ (q_l4 k_1055 k_1056 k_1057 k_64) k_1058) rfl rfl rfl (by decide +kernel) ⟨Nat.le_of_ble_eq_true rfl, Nat.le_of_ble_eq_true rfl⟩) (q_preV qok hKK hPm hDm (va_recv (ci := 9) (q0 := 0) hK hPm rfl rfl)) rfl rfl hl.1 rfl (lv_room (Nat.le_of_ble_eq_true rfl)) d_SlippedStreamsLaw_law_361 ⟨hce, hsl⟩) hDm hPx hap.symm hS hA (fun H locs hPm hDm hPx hap hS => ?_)
                              replace hap := hap.symm
                              refine lv_icmp_eq (tgt := 614) hx hb d_SlippedStreamsLaw_law_364 (by decide) (fun hc => ?_) (fun hc => ?_)
                              · replace h := il_t hc h
                                exact jp_614 z21 t22 y1 0 0 0 _ _ _ h hPx hDx hPm hDm hap hS (lv_sub hl [0, 1, 2, 3] rfl)
                              · replace h := il_f hc h
                                refine lv_iconst (v := 0) hx hb d_SlippedStreamsLaw_law_367 (by decide) ?_
                                exact absurd (Option.some.inj h) (by decide)
                            · replace h := il_f hc10 h
                              by_cases hc11 : (xs y1.toNatClampNeg) &&& 31 = 11
                              · replace h := il_t hc11 h
                                refine lv_tableIn (tgt := 369) (off := 337) hx hb d_SlippedStreamsLaw_law_32 (by rw [hc11]; decide) (by rw [hc11]; decide) (by rw [hc11]; rfl) (by decide) ?_
                                refine lv_aload_n hx hb d_SlippedStreamsLaw_law_369 rfl (lv_at hl 1 rfl) ?_
                                refine lv_aload_n hx hb d_SlippedStreamsLaw_law_370 rfl (lv_at hl 0 rfl) ?_
                                refine lv_iload_n hx hb d_SlippedStreamsLaw_law_371 rfl (lv_at hl 3 rfl) ?_
                                refine lv_iconst (v := 1) hx hb d_SlippedStreamsLaw_law_372 (by decide) ?_
                                refine lv_iadd hx hb d_SlippedStreamsLaw_law_373 ?_
                                obtain ⟨hi, h⟩ := gil_e h
                                refine va_sld hx hb hX hbl hbA hS hi d_SlippedStreamsLaw_law_374 ?_
                                obtain ⟨r23, z23, hc23, h⟩ := oln_e h
                                refine q2_i (va_runV (As := [.int (xs (y1 + 1).toNatClampNeg)]) (rest := []) ⟨hx, hb, hml, hown, hts⟩ (c_x_queue l dC dI cI cZ ad z0 (xs (y1 + 1).toNatClampNeg) _ hc23 _) (cwV 1 hts (q_goodL _ (q_l4 k_770 k_771 k_772 k_53) k_773) rfl rfl rfl (by decide +kernel) ⟨Nat.le_of_ble_eq_true rfl, Nat.le_of_ble_eq_true rfl⟩) (q_preV qok hKK hPx hDx (va_recv (ci := 0) (q0 := 0) hK hPx rfl rfl)) rfl rfl hl.1 rfl (lv_room (Nat.le_of_ble_eq_true rfl)) d_SlippedStreamsLaw_law_375 ⟨hce, hsl⟩) hDx hPm hap hS hA (fun H locs hPx hDx hPm hap hS => ?_)
                                refine lv_aload_n hx hb d_SlippedStreamsLaw_law_378 rfl (lv_at hl 2 rfl) ?_
                                refine lv_aload_n hx hb d_SlippedStreamsLaw_law_379 rfl (lv_at hl 0 rfl) ?_
                                refine lv_iload_n hx hb d_SlippedStreamsLaw_law_380 rfl (lv_at hl 3 rfl) ?_
                                refine lv_iconst (v := 1) hx hb d_SlippedStreamsLaw_law_381 (by decide) ?_
                                refine lv_iadd hx hb d_SlippedStreamsLaw_law_382 ?_
                                obtain ⟨hi, h⟩ := gil_e h
                                refine va_sld hx hb hX hbl hbA hS hi d_SlippedStreamsLaw_law_383 ?_
                                obtain ⟨r24, t24, hc24, h⟩ := oln_e h
                                refine q2_i (va_runV (As := [.int (xs (y1 + 1).toNatClampNeg)]) (rest := [.int r23]) ⟨hx, hb, hml, hown, hts⟩ (c_m_queue l dC dI cI cZ bd t0 (xs (y1 + 1).toNatClampNeg) _ hc24 _) (cwV 1 hts (q_goodL _ (q_l4 k_1059 k_1060 k_1061 k_64) k_1062) rfl rfl rfl (by decide +kernel) ⟨Nat.le_of_ble_eq_true rfl, Nat.le_of_ble_eq_true rfl⟩) (q_preV qok hKK hPm hDm (va_recv (ci := 9) (q0 := 0) hK hPm rfl rfl)) rfl rfl hl.1 rfl (lv_room (Nat.le_of_ble_eq_true rfl)) d_SlippedStreamsLaw_law_384 ⟨hce, hsl⟩) hDm hPx hap.symm hS hA (fun H locs hPm hDm hPx hap hS => ?_)
                                replace hap := hap.symm
                                refine lv_icmp_eq (tgt := 614) hx hb d_SlippedStreamsLaw_law_387 (by decide) (fun hc => ?_) (fun hc => ?_)
                                · replace h := il_t hc h
                                  exact jp_614 z23 t24 y1 0 0 0 _ _ _ h hPx hDx hPm hDm hap hS (lv_sub hl [0, 1, 2, 3] rfl)
                                · replace h := il_f hc h
                                  refine lv_iconst (v := 0) hx hb d_SlippedStreamsLaw_law_390 (by decide) ?_
                                  exact absurd (Option.some.inj h) (by decide)
                              · replace h := il_f hc11 h
                                by_cases hc12 : (xs y1.toNatClampNeg) &&& 31 = 12
                                · replace h := il_t hc12 h
                                  refine lv_tableIn (tgt := 392) (off := 360) hx hb d_SlippedStreamsLaw_law_32 (by rw [hc12]; decide) (by rw [hc12]; decide) (by rw [hc12]; rfl) (by decide) ?_
                                  refine lv_aload_n hx hb d_SlippedStreamsLaw_law_392 rfl (lv_at hl 1 rfl) ?_
                                  refine lv_aload_n hx hb d_SlippedStreamsLaw_law_393 rfl (lv_at hl 0 rfl) ?_
                                  refine lv_iload_n hx hb d_SlippedStreamsLaw_law_394 rfl (lv_at hl 3 rfl) ?_
                                  refine lv_iconst (v := 1) hx hb d_SlippedStreamsLaw_law_395 (by decide) ?_
                                  refine lv_iadd hx hb d_SlippedStreamsLaw_law_396 ?_
                                  obtain ⟨hi, h⟩ := gil_e h
                                  refine va_sld hx hb hX hbl hbA hS hi d_SlippedStreamsLaw_law_397 ?_
                                  refine lv_aload_n hx hb d_SlippedStreamsLaw_law_398 rfl (lv_at hl 0 rfl) ?_
                                  refine lv_iload_n hx hb d_SlippedStreamsLaw_law_399 rfl (lv_at hl 3 rfl) ?_
                                  refine lv_iconst (v := 2) hx hb d_SlippedStreamsLaw_law_400 (by decide) ?_
                                  refine lv_iadd hx hb d_SlippedStreamsLaw_law_401 ?_
                                  obtain ⟨hi, h⟩ := gil_e h
                                  refine va_sld hx hb hX hbl hbA hS hi d_SlippedStreamsLaw_law_402 ?_
                                  refine lv_if_eq (tgt := 410) hx hb d_SlippedStreamsLaw_law_403 (by decide) (fun hc => ?_) (fun hc => ?_)
                                  · replace h := il_t hc h
                                    refine lv_iconst (v := 0) hx hb d_SlippedStreamsLaw_law_410 (by decide) ?_
                                    exact jp_411 z0 t0 y1 (xs (y1 + 1).toNatClampNeg) 0 0 _ _ _ h hPx hDx hPm hDm hap hS (lv_sub hl [0, 1, 2, 3] rfl)
                                  · replace h := il_f hc h
                                    refine lv_iconst (v := 1) hx hb d_SlippedStreamsLaw_law_406 (by decide) ?_
                                    refine lv_goto (tgt := 411) hx hb d_SlippedStreamsLaw_law_407 (by decide) ?_
                                    exact jp_411 z0 t0 y1 (xs (y1 + 1).toNatClampNeg) 1 0 _ _ _ h hPx hDx hPm hDm hap hS (lv_sub hl [0, 1, 2, 3] rfl)
                                · replace h := il_f hc12 h
                                  by_cases hc13 : (xs y1.toNatClampNeg) &&& 31 = 13
                                  · replace h := il_t hc13 h
                                    refine lv_tableIn (tgt := 441) (off := 409) hx hb d_SlippedStreamsLaw_law_32 (by rw [hc13]; decide) (by rw [hc13]; decide) (by rw [hc13]; rfl) (by decide) ?_
                                    refine lv_aload_n hx hb d_SlippedStreamsLaw_law_441 rfl (lv_at hl 1 rfl) ?_
                                    refine lv_aload_n hx hb d_SlippedStreamsLaw_law_442 rfl (lv_at hl 0 rfl) ?_
                                    refine lv_iload_n hx hb d_SlippedStreamsLaw_law_443 rfl (lv_at hl 3 rfl) ?_
                                    refine lv_iconst (v := 1) hx hb d_SlippedStreamsLaw_law_444 (by decide) ?_
                                    refine lv_iadd hx hb d_SlippedStreamsLaw_law_445 ?_
                                    obtain ⟨hi, h⟩ := gil_e h
                                    refine va_sld hx hb hX hbl hbA hS hi d_SlippedStreamsLaw_law_446 ?_
                                    refine lv_aload_n hx hb d_SlippedStreamsLaw_law_447 rfl (lv_at hl 0 rfl) ?_
                                    refine lv_iload_n hx hb d_SlippedStreamsLaw_law_448 rfl (lv_at hl 3 rfl) ?_
                                    refine lv_iconst (v := 2) hx hb d_SlippedStreamsLaw_law_449 (by decide) ?_
                                    refine lv_iadd hx hb d_SlippedStreamsLaw_law_450 ?_
                                    obtain ⟨hi, h⟩ := gil_e h
                                    refine va_sld hx hb hX hbl hbA hS hi d_SlippedStreamsLaw_law_451 ?_
                                    refine lv_if_eq (tgt := 459) hx hb d_SlippedStreamsLaw_law_452 (by decide) (fun hc => ?_) (fun hc => ?_)
                                    · replace h := il_t hc h
                                      refine lv_iconst (v := 0) hx hb d_SlippedStreamsLaw_law_459 (by decide) ?_
                                      exact jp_460 z0 t0 y1 (xs (y1 + 1).toNatClampNeg) 0 0 _ _ _ h hPx hDx hPm hDm hap hS (lv_sub hl [0, 1, 2, 3] rfl)
                                    · replace h := il_f hc h
                                      refine lv_iconst (v := 1) hx hb d_SlippedStreamsLaw_law_455 (by decide) ?_
                                      refine lv_goto (tgt := 460) hx hb d_SlippedStreamsLaw_law_456 (by decide) ?_
                                      exact jp_460 z0 t0 y1 (xs (y1 + 1).toNatClampNeg) 1 0 _ _ _ h hPx hDx hPm hDm hap hS (lv_sub hl [0, 1, 2, 3] rfl)
                                  · replace h := il_f hc13 h
                                    by_cases hc14 : (xs y1.toNatClampNeg) &&& 31 = 14
                                    · replace h := il_t hc14 h
                                      refine lv_tableIn (tgt := 490) (off := 458) hx hb d_SlippedStreamsLaw_law_32 (by rw [hc14]; decide) (by rw [hc14]; decide) (by rw [hc14]; rfl) (by decide) ?_
                                      refine lv_aload_n hx hb d_SlippedStreamsLaw_law_490 rfl (lv_at hl 1 rfl) ?_
                                      obtain ⟨r25, z25, hc25, h⟩ := oln_e h
                                      refine q2_i (va_runV (As := []) (rest := []) ⟨hx, hb, hml, hown, hts⟩ (c_x_losses l dC dI cI cZ ad z0 _ hc25 _) (cwV 0 hts (q_goodL _ (q_l4 k_784 k_785 k_786 k_53) k_787) rfl rfl rfl (by decide +kernel) ⟨Nat.le_of_ble_eq_true rfl, Nat.le_of_ble_eq_true rfl⟩) (q_preV qok hKK hPx hDx (va_recv (ci := 0) (q0 := 0) hK hPx rfl rfl)) rfl rfl hl.1 rfl (lv_room (Nat.le_of_ble_eq_true rfl)) d_SlippedStreamsLaw_law_491 ⟨hce, hsl⟩) hDx hPm hap hS hA (fun H locs hPx hDx hPm hap hS => ?_)
                                      refine lv_aload_n hx hb d_SlippedStreamsLaw_law_494 rfl (lv_at hl 2 rfl) ?_
                                      obtain ⟨r26, t26, hc26, h⟩ := oln_e h
                                      refine q2_i (va_runV (As := []) (rest := [.int r25]) ⟨hx, hb, hml, hown, hts⟩ (c_m_losses l dC dI cI cZ bd t0 _ hc26 _) (cwV 0 hts (q_goodL _ (q_l4 k_1071 k_1072 k_1073 k_64) k_1074) rfl rfl rfl (by decide +kernel) ⟨Nat.le_of_ble_eq_true rfl, Nat.le_of_ble_eq_true rfl⟩) (q_preV qok hKK hPm hDm (va_recv (ci := 9) (q0 := 0) hK hPm rfl rfl)) rfl rfl hl.1 rfl (lv_room (Nat.le_of_ble_eq_true rfl)) d_SlippedStreamsLaw_law_495 ⟨hce, hsl⟩) hDm hPx hap.symm hS hA (fun H locs hPm hDm hPx hap hS => ?_)
                                      replace hap := hap.symm
                                      refine lv_icmp_eq (tgt := 614) hx hb d_SlippedStreamsLaw_law_498 (by decide) (fun hc => ?_) (fun hc => ?_)
                                      · replace h := il_t hc h
                                        exact jp_614 z25 t26 y1 0 0 0 _ _ _ h hPx hDx hPm hDm hap hS (lv_sub hl [0, 1, 2, 3] rfl)
                                      · replace h := il_f hc h
                                        refine lv_iconst (v := 0) hx hb d_SlippedStreamsLaw_law_501 (by decide) ?_
                                        exact absurd (Option.some.inj h) (by decide)
                                    · replace h := il_f hc14 h
                                      by_cases hc15 : (xs y1.toNatClampNeg) &&& 31 = 15
                                      · replace h := il_t hc15 h
                                        refine lv_tableIn (tgt := 503) (off := 471) hx hb d_SlippedStreamsLaw_law_32 (by rw [hc15]; decide) (by rw [hc15]; decide) (by rw [hc15]; rfl) (by decide) ?_
                                        refine lv_aload_n hx hb d_SlippedStreamsLaw_law_503 rfl (lv_at hl 1 rfl) ?_
                                        refine lv_aload_n hx hb d_SlippedStreamsLaw_law_504 rfl (lv_at hl 0 rfl) ?_
                                        refine lv_iload_n hx hb d_SlippedStreamsLaw_law_505 rfl (lv_at hl 3 rfl) ?_
                                        refine lv_iconst (v := 1) hx hb d_SlippedStreamsLaw_law_506 (by decide) ?_
                                        refine lv_iadd hx hb d_SlippedStreamsLaw_law_507 ?_
                                        obtain ⟨hi, h⟩ := gil_e h
                                        refine va_sld hx hb hX hbl hbA hS hi d_SlippedStreamsLaw_law_508 ?_
                                        obtain ⟨r27, z27, hc27, h⟩ := oln_e h
                                        refine q2_i (va_runV (As := [.int (xs (y1 + 1).toNatClampNeg)]) (rest := []) ⟨hx, hb, hml, hown, hts⟩ (c_x_plain l dC dI cI cZ ad z0 (xs (y1 + 1).toNatClampNeg) _ hc27 _) (cwV 1 hts (q_goodL _ (q_l4 k_788 k_789 k_790 k_53) k_791) rfl rfl rfl (by decide +kernel) ⟨Nat.le_of_ble_eq_true rfl, Nat.le_of_ble_eq_true rfl⟩) (q_preV qok hKK hPx hDx (va_recv (ci := 0) (q0 := 0) hK hPx rfl rfl)) rfl rfl hl.1 rfl (lv_room (Nat.le_of_ble_eq_true rfl)) d_SlippedStreamsLaw_law_509 ⟨hce, hsl⟩) hDx hPm hap hS hA (fun H locs hPx hDx hPm hap hS => ?_)
                                        refine lv_aload_n hx hb d_SlippedStreamsLaw_law_512 rfl (lv_at hl 2 rfl) ?_
                                        refine lv_aload_n hx hb d_SlippedStreamsLaw_law_513 rfl (lv_at hl 0 rfl) ?_
                                        refine lv_iload_n hx hb d_SlippedStreamsLaw_law_514 rfl (lv_at hl 3 rfl) ?_
                                        refine lv_iconst (v := 1) hx hb d_SlippedStreamsLaw_law_515 (by decide) ?_
                                        refine lv_iadd hx hb d_SlippedStreamsLaw_law_516 ?_
                                        obtain ⟨hi, h⟩ := gil_e h
                                        refine va_sld hx hb hX hbl hbA hS hi d_SlippedStreamsLaw_law_517 ?_
                                        obtain ⟨r28, t28, hc28, h⟩ := oln_e h
                                        refine q2_i (va_runV (As := [.int (xs (y1 + 1).toNatClampNeg)]) (rest := [.int r27]) ⟨hx, hb, hml, hown, hts⟩ (c_m_plain l dC dI cI cZ bd t0 (xs (y1 + 1).toNatClampNeg) _ hc28 _) (cwV 1 hts (q_goodL _ (q_l4 k_1035 k_1036 k_1037 k_64) k_1038) rfl rfl rfl (by decide +kernel) ⟨Nat.le_of_ble_eq_true rfl, Nat.le_of_ble_eq_true rfl⟩) (q_preV qok hKK hPm hDm (va_recv (ci := 9) (q0 := 0) hK hPm rfl rfl)) rfl rfl hl.1 rfl (lv_room (Nat.le_of_ble_eq_true rfl)) d_SlippedStreamsLaw_law_518 ⟨hce, hsl⟩) hDm hPx hap.symm hS hA (fun H locs hPm hDm hPx hap hS => ?_)
                                        replace hap := hap.symm
                                        refine lv_icmp_eq (tgt := 614) hx hb d_SlippedStreamsLaw_law_521 (by decide) (fun hc => ?_) (fun hc => ?_)
                                        · replace h := il_t hc h
                                          exact jp_614 z27 t28 y1 0 0 0 _ _ _ h hPx hDx hPm hDm hap hS (lv_sub hl [0, 1, 2, 3] rfl)
                                        · replace h := il_f hc h
                                          refine lv_iconst (v := 0) hx hb d_SlippedStreamsLaw_law_524 (by decide) ?_
                                          exact absurd (Option.some.inj h) (by decide)
                                      · replace h := il_f hc15 h
                                        by_cases hc16 : (xs y1.toNatClampNeg) &&& 31 = 16
                                        · replace h := il_t hc16 h
                                          refine lv_tableIn (tgt := 526) (off := 494) hx hb d_SlippedStreamsLaw_law_32 (by rw [hc16]; decide) (by rw [hc16]; decide) (by rw [hc16]; rfl) (by decide) ?_
                                          refine lv_aload_n hx hb d_SlippedStreamsLaw_law_526 rfl (lv_at hl 1 rfl) ?_
                                          refine lv_aload_n hx hb d_SlippedStreamsLaw_law_527 rfl (lv_at hl 0 rfl) ?_
                                          refine lv_iload_n hx hb d_SlippedStreamsLaw_law_528 rfl (lv_at hl 3 rfl) ?_
                                          refine lv_iconst (v := 1) hx hb d_SlippedStreamsLaw_law_529 (by decide) ?_
                                          refine lv_iadd hx hb d_SlippedStreamsLaw_law_530 ?_
                                          obtain ⟨hi, h⟩ := gil_e h
                                          refine va_sld hx hb hX hbl hbA hS hi d_SlippedStreamsLaw_law_531 ?_
                                          refine lv_if_eq (tgt := 539) hx hb d_SlippedStreamsLaw_law_532 (by decide) (fun hc => ?_) (fun hc => ?_)
                                          · replace h := il_t hc h
                                            refine lv_iconst (v := 0) hx hb d_SlippedStreamsLaw_law_539 (by decide) ?_
                                            exact jp_540 z0 t0 y1 0 0 0 _ _ _ h hPx hDx hPm hDm hap hS (lv_sub hl [0, 1, 2, 3] rfl)
                                          · replace h := il_f hc h
                                            refine lv_iconst (v := 1) hx hb d_SlippedStreamsLaw_law_535 (by decide) ?_
                                            refine lv_goto (tgt := 540) hx hb d_SlippedStreamsLaw_law_536 (by decide) ?_
                                            exact jp_540 z0 t0 y1 1 0 0 _ _ _ h hPx hDx hPm hDm hap hS (lv_sub hl [0, 1, 2, 3] rfl)
                                        · replace h := il_f hc16 h
                                          by_cases hc17 : (xs y1.toNatClampNeg) &&& 31 = 17
                                          · replace h := il_t hc17 h
                                            refine lv_tableIn (tgt := 565) (off := 533) hx hb d_SlippedStreamsLaw_law_32 (by rw [hc17]; decide) (by rw [hc17]; decide) (by rw [hc17]; rfl) (by decide) ?_
                                            refine lv_aload_n hx hb d_SlippedStreamsLaw_law_565 rfl (lv_at hl 1 rfl) ?_
                                            refine lv_aload_n hx hb d_SlippedStreamsLaw_law_566 rfl (lv_at hl 0 rfl) ?_
                                            refine lv_iload_n hx hb d_SlippedStreamsLaw_law_567 rfl (lv_at hl 3 rfl) ?_
                                            refine lv_iconst (v := 1) hx hb d_SlippedStreamsLaw_law_568 (by decide) ?_
                                            refine lv_iadd hx hb d_SlippedStreamsLaw_law_569 ?_
                                            obtain ⟨hi, h⟩ := gil_e h
                                            refine va_sld hx hb hX hbl hbA hS hi d_SlippedStreamsLaw_law_570 ?_
                                            refine lv_aload_n hx hb d_SlippedStreamsLaw_law_571 rfl (lv_at hl 0 rfl) ?_
                                            refine lv_iload_n hx hb d_SlippedStreamsLaw_law_572 rfl (lv_at hl 3 rfl) ?_
                                            refine lv_iconst (v := 2) hx hb d_SlippedStreamsLaw_law_573 (by decide) ?_
                                            refine lv_iadd hx hb d_SlippedStreamsLaw_law_574 ?_
                                            obtain ⟨hi, h⟩ := gil_e h
                                            refine va_sld hx hb hX hbl hbA hS hi d_SlippedStreamsLaw_law_575 ?_
                                            refine lv_if_eq (tgt := 583) hx hb d_SlippedStreamsLaw_law_576 (by decide) (fun hc => ?_) (fun hc => ?_)
                                            · replace h := il_t hc h
                                              refine lv_iconst (v := 0) hx hb d_SlippedStreamsLaw_law_583 (by decide) ?_
                                              exact jp_584 z0 t0 y1 (xs (y1 + 1).toNatClampNeg) 0 0 _ _ _ h hPx hDx hPm hDm hap hS (lv_sub hl [0, 1, 2, 3] rfl)
                                            · replace h := il_f hc h
                                              refine lv_iconst (v := 1) hx hb d_SlippedStreamsLaw_law_579 (by decide) ?_
                                              refine lv_goto (tgt := 584) hx hb d_SlippedStreamsLaw_law_580 (by decide) ?_
                                              exact jp_584 z0 t0 y1 (xs (y1 + 1).toNatClampNeg) 1 0 _ _ _ h hPx hDx hPm hDm hap hS (lv_sub hl [0, 1, 2, 3] rfl)
                                          · replace h := il_f hc17 h
                                            refine lv_tableOut (tgt := 614) hx hb d_SlippedStreamsLaw_law_32 (by have g0 := lv_neT hc0 (a := 0) (by decide); have g1 := lv_neT hc1 (a := 1) (by decide); have g2 := lv_neT hc2 (a := 2) (by decide); have g3 := lv_neT hc3 (a := 3) (by decide); have g4 := lv_neT hc4 (a := 4) (by decide); have g5 := lv_neT hc5 (a := 5) (by decide); have g6 := lv_neT hc6 (a := 6) (by decide); have g7 := lv_neT hc7 (a := 7) (by decide); have g8 := lv_neT hc8 (a := 8) (by decide); have g9 := lv_neT hc9 (a := 9) (by decide); have g10 := lv_neT hc10 (a := 10) (by decide); have g11 := lv_neT hc11 (a := 11) (by decide); have g12 := lv_neT hc12 (a := 12) (by decide); have g13 := lv_neT hc13 (a := 13) (by decide); have g14 := lv_neT hc14 (a := 14) (by decide); have g15 := lv_neT hc15 (a := 15) (by decide); have g16 := lv_neT hc16 (a := 16) (by decide); have g17 := lv_neT hc17 (a := 17) (by decide); omega) (by decide) ?_
                                            exact jp_614 z0 t0 y1 0 0 0 _ _ _ h hPx hDx hPm hDm hap hS (lv_sub hl [0, 1, 2, 3] rfl)
    · intro z0 t0 y1 y2 y3 y4 H locs ls h hPx hDx hPm hDm hap hS hl
      replace h : lw_g411 xs L (lw_f xs L n) z0 t0 y1 y2 y3 y4 = some 1 := h
      unfold lw_g411 at h
      obtain ⟨r29, z29, hc29, h⟩ := oln_e h
      refine q2_i (va_runV (As := [.int y2, .int y3]) (rest := []) ⟨hx, hb, hml, hown, hts⟩ (c_x_register l dC dI cI cZ ad z0 y2 y3 _ hc29 _) (cwV 2 hts (q_goodL _ (q_l4 k_774 k_775 k_776 k_53) k_777) rfl rfl rfl (by decide +kernel) ⟨Nat.le_of_ble_eq_true rfl, Nat.le_of_ble_eq_true rfl⟩) (q_preV qok hKK hPx hDx (va_recv (ci := 0) (q0 := 0) hK hPx rfl rfl)) rfl rfl hl.1 rfl (lv_room (Nat.le_of_ble_eq_true rfl)) d_SlippedStreamsLaw_law_411 ⟨hce, hsl⟩) hDx hPm hap hS hA (fun H locs hPx hDx hPm hap hS => ?_)
      refine lv_aload_n hx hb d_SlippedStreamsLaw_law_414 rfl (lv_at hl 2 rfl) ?_
      refine lv_aload_n hx hb d_SlippedStreamsLaw_law_415 rfl (lv_at hl 0 rfl) ?_
      refine lv_iload_n hx hb d_SlippedStreamsLaw_law_416 rfl (lv_at hl 3 rfl) ?_
      refine lv_iconst (v := 1) hx hb d_SlippedStreamsLaw_law_417 (by decide) ?_
      refine lv_iadd hx hb d_SlippedStreamsLaw_law_418 ?_
      obtain ⟨hi, h⟩ := gil_e h
      refine va_sld hx hb hX hbl hbA hS hi d_SlippedStreamsLaw_law_419 ?_
      refine lv_aload_n hx hb d_SlippedStreamsLaw_law_420 rfl (lv_at hl 0 rfl) ?_
      refine lv_iload_n hx hb d_SlippedStreamsLaw_law_421 rfl (lv_at hl 3 rfl) ?_
      refine lv_iconst (v := 2) hx hb d_SlippedStreamsLaw_law_422 (by decide) ?_
      refine lv_iadd hx hb d_SlippedStreamsLaw_law_423 ?_
      obtain ⟨hi, h⟩ := gil_e h
      refine va_sld hx hb hX hbl hbA hS hi d_SlippedStreamsLaw_law_424 ?_
      refine lv_if_eq (tgt := 432) hx hb d_SlippedStreamsLaw_law_425 (by decide) (fun hc => ?_) (fun hc => ?_)
      · replace h := il_t hc h
        refine lv_iconst (v := 0) hx hb d_SlippedStreamsLaw_law_432 (by decide) ?_
        exact jp_433 z29 t0 y1 r29 (xs (y1 + 1).toNatClampNeg) 0 _ _ _ h hPx hDx hPm hDm hap hS (lv_sub hl [0, 1, 2, 3] rfl)
      · replace h := il_f hc h
        refine lv_iconst (v := 1) hx hb d_SlippedStreamsLaw_law_428 (by decide) ?_
        refine lv_goto (tgt := 433) hx hb d_SlippedStreamsLaw_law_429 (by decide) ?_
        exact jp_433 z29 t0 y1 r29 (xs (y1 + 1).toNatClampNeg) 1 _ _ _ h hPx hDx hPm hDm hap hS (lv_sub hl [0, 1, 2, 3] rfl)
    · intro z0 t0 y1 y2 y3 y4 H locs ls h hPx hDx hPm hDm hap hS hl
      replace h : lw_g433 xs L (lw_f xs L n) z0 t0 y1 y2 y3 y4 = some 1 := h
      unfold lw_g433 at h
      obtain ⟨r30, t30, hc30, h⟩ := oln_e h
      refine q2_i (va_runV (As := [.int y3, .int y4]) (rest := [.int y2]) ⟨hx, hb, hml, hown, hts⟩ (c_m_register l dC dI cI cZ bd t0 y3 y4 _ hc30 _) (cwV 2 hts (q_goodL _ (q_l4 k_1063 k_1064 k_1065 k_64) k_1066) rfl rfl rfl (by decide +kernel) ⟨Nat.le_of_ble_eq_true rfl, Nat.le_of_ble_eq_true rfl⟩) (q_preV qok hKK hPm hDm (va_recv (ci := 9) (q0 := 0) hK hPm rfl rfl)) rfl rfl hl.1 rfl (lv_room (Nat.le_of_ble_eq_true rfl)) d_SlippedStreamsLaw_law_433 ⟨hce, hsl⟩) hDm hPx hap.symm hS hA (fun H locs hPm hDm hPx hap hS => ?_)
      replace hap := hap.symm
      refine lv_icmp_eq (tgt := 614) hx hb d_SlippedStreamsLaw_law_436 (by decide) (fun hc => ?_) (fun hc => ?_)
      · replace h := il_t hc h
        exact jp_614 z0 t30 y1 0 0 0 _ _ _ h hPx hDx hPm hDm hap hS (lv_sub hl [0, 1, 2, 3] rfl)
      · replace h := il_f hc h
        refine lv_iconst (v := 0) hx hb d_SlippedStreamsLaw_law_439 (by decide) ?_
        exact absurd (Option.some.inj h) (by decide)
    · intro z0 t0 y1 y2 y3 y4 H locs ls h hPx hDx hPm hDm hap hS hl
      replace h : lw_g460 xs L (lw_f xs L n) z0 t0 y1 y2 y3 y4 = some 1 := h
      unfold lw_g460 at h
      obtain ⟨r31, z31, hc31, h⟩ := oln_e h
      refine q2_i (va_runV (As := [.int y2, .int y3]) (rest := []) ⟨hx, hb, hml, hown, hts⟩ (c_x_peek l dC dI cI cZ ad z0 y2 y3 _ hc31 _) (cwV 2 hts (q_goodL _ (q_l4 k_780 k_781 k_782 k_53) k_783) rfl rfl rfl (by decide +kernel) ⟨Nat.le_of_ble_eq_true rfl, Nat.le_of_ble_eq_true rfl⟩) (q_preV qok hKK hPx hDx (va_recv (ci := 0) (q0 := 0) hK hPx rfl rfl)) rfl rfl hl.1 rfl (lv_room (Nat.le_of_ble_eq_true rfl)) d_SlippedStreamsLaw_law_460 ⟨hce, hsl⟩) hDx hPm hap hS hA (fun H locs hPx hDx hPm hap hS => ?_)
      refine lv_aload_n hx hb d_SlippedStreamsLaw_law_463 rfl (lv_at hl 2 rfl) ?_
      refine lv_aload_n hx hb d_SlippedStreamsLaw_law_464 rfl (lv_at hl 0 rfl) ?_
      refine lv_iload_n hx hb d_SlippedStreamsLaw_law_465 rfl (lv_at hl 3 rfl) ?_
      refine lv_iconst (v := 1) hx hb d_SlippedStreamsLaw_law_466 (by decide) ?_
      refine lv_iadd hx hb d_SlippedStreamsLaw_law_467 ?_
      obtain ⟨hi, h⟩ := gil_e h
      refine va_sld hx hb hX hbl hbA hS hi d_SlippedStreamsLaw_law_468 ?_
      refine lv_aload_n hx hb d_SlippedStreamsLaw_law_469 rfl (lv_at hl 0 rfl) ?_
      refine lv_iload_n hx hb d_SlippedStreamsLaw_law_470 rfl (lv_at hl 3 rfl) ?_
      refine lv_iconst (v := 2) hx hb d_SlippedStreamsLaw_law_471 (by decide) ?_
      refine lv_iadd hx hb d_SlippedStreamsLaw_law_472 ?_
      obtain ⟨hi, h⟩ := gil_e h
      refine va_sld hx hb hX hbl hbA hS hi d_SlippedStreamsLaw_law_473 ?_
      refine lv_if_eq (tgt := 481) hx hb d_SlippedStreamsLaw_law_474 (by decide) (fun hc => ?_) (fun hc => ?_)
      · replace h := il_t hc h
        refine lv_iconst (v := 0) hx hb d_SlippedStreamsLaw_law_481 (by decide) ?_
        exact jp_482 z31 t0 y1 r31 (xs (y1 + 1).toNatClampNeg) 0 _ _ _ h hPx hDx hPm hDm hap hS (lv_sub hl [0, 1, 2, 3] rfl)
      · replace h := il_f hc h
        refine lv_iconst (v := 1) hx hb d_SlippedStreamsLaw_law_477 (by decide) ?_
        refine lv_goto (tgt := 482) hx hb d_SlippedStreamsLaw_law_478 (by decide) ?_
        exact jp_482 z31 t0 y1 r31 (xs (y1 + 1).toNatClampNeg) 1 _ _ _ h hPx hDx hPm hDm hap hS (lv_sub hl [0, 1, 2, 3] rfl)
    · intro z0 t0 y1 y2 y3 y4 H locs ls h hPx hDx hPm hDm hap hS hl
      replace h : lw_g482 xs L (lw_f xs L n) z0 t0 y1 y2 y3 y4 = some 1 := h
      unfold lw_g482 at h
      obtain ⟨r32, t32, hc32, h⟩ := oln_e h
      refine q2_i (va_runV (As := [.int y3, .int y4]) (rest := [.int y2]) ⟨hx, hb, hml, hown, hts⟩ (c_m_peek l dC dI cI cZ bd t0 y3 y4 _ hc32 _) (cwV 2 hts (q_goodL _ (q_l4 k_1067 k_1068 k_1069 k_64) k_1070) rfl rfl rfl (by decide +kernel) ⟨Nat.le_of_ble_eq_true rfl, Nat.le_of_ble_eq_true rfl⟩) (q_preV qok hKK hPm hDm (va_recv (ci := 9) (q0 := 0) hK hPm rfl rfl)) rfl rfl hl.1 rfl (lv_room (Nat.le_of_ble_eq_true rfl)) d_SlippedStreamsLaw_law_482 ⟨hce, hsl⟩) hDm hPx hap.symm hS hA (fun H locs hPm hDm hPx hap hS => ?_)
      replace hap := hap.symm
      refine lv_icmp_eq (tgt := 614) hx hb d_SlippedStreamsLaw_law_485 (by decide) (fun hc => ?_) (fun hc => ?_)
      · replace h := il_t hc h
        exact jp_614 z0 t32 y1 0 0 0 _ _ _ h hPx hDx hPm hDm hap hS (lv_sub hl [0, 1, 2, 3] rfl)
      · replace h := il_f hc h
        refine lv_iconst (v := 0) hx hb d_SlippedStreamsLaw_law_488 (by decide) ?_
        exact absurd (Option.some.inj h) (by decide)
    · intro z0 t0 y1 y2 y3 y4 H locs ls h hPx hDx hPm hDm hap hS hl
      replace h : lw_g540 xs L (lw_f xs L n) z0 t0 y1 y2 y3 y4 = some 1 := h
      unfold lw_g540 at h
      obtain ⟨r33, z33, hc33, h⟩ := oln_e h
      refine q2_i (va_runV (As := [.int y2]) (rest := []) ⟨hx, hb, hml, hown, hts⟩ (c_x_outputs l dC dI cI cZ ad z0 y2 _ hc33 _) (cwV 1 hts (q_goodL _ (q_l4 k_795 k_796 k_797 k_53) k_798) rfl rfl rfl (by decide +kernel) ⟨Nat.le_of_ble_eq_true rfl, Nat.le_of_ble_eq_true rfl⟩) (q_preV qok hKK hPx hDx (va_recv (ci := 0) (q0 := 0) hK hPx rfl rfl)) rfl rfl hl.1 rfl (lv_room (Nat.le_of_ble_eq_true rfl)) d_SlippedStreamsLaw_law_540 ⟨hce, hsl⟩) hDx hPm hap hS hA (fun H locs hPx hDx hPm hap hS => ?_)
      refine lv_aload_n hx hb d_SlippedStreamsLaw_law_543 rfl (lv_at hl 2 rfl) ?_
      refine lv_aload_n hx hb d_SlippedStreamsLaw_law_544 rfl (lv_at hl 0 rfl) ?_
      refine lv_iload_n hx hb d_SlippedStreamsLaw_law_545 rfl (lv_at hl 3 rfl) ?_
      refine lv_iconst (v := 1) hx hb d_SlippedStreamsLaw_law_546 (by decide) ?_
      refine lv_iadd hx hb d_SlippedStreamsLaw_law_547 ?_
      obtain ⟨hi, h⟩ := gil_e h
      refine va_sld hx hb hX hbl hbA hS hi d_SlippedStreamsLaw_law_548 ?_
      refine lv_if_eq (tgt := 556) hx hb d_SlippedStreamsLaw_law_549 (by decide) (fun hc => ?_) (fun hc => ?_)
      · replace h := il_t hc h
        refine lv_iconst (v := 0) hx hb d_SlippedStreamsLaw_law_556 (by decide) ?_
        exact jp_557 z33 t0 y1 r33 0 0 _ _ _ h hPx hDx hPm hDm hap hS (lv_sub hl [0, 1, 2, 3] rfl)
      · replace h := il_f hc h
        refine lv_iconst (v := 1) hx hb d_SlippedStreamsLaw_law_552 (by decide) ?_
        refine lv_goto (tgt := 557) hx hb d_SlippedStreamsLaw_law_553 (by decide) ?_
        exact jp_557 z33 t0 y1 r33 1 0 _ _ _ h hPx hDx hPm hDm hap hS (lv_sub hl [0, 1, 2, 3] rfl)
    · intro z0 t0 y1 y2 y3 y4 H locs ls h hPx hDx hPm hDm hap hS hl
      replace h : lw_g557 xs L (lw_f xs L n) z0 t0 y1 y2 y3 y4 = some 1 := h
      unfold lw_g557 at h
      obtain ⟨r34, t34, hc34, h⟩ := oln_e h
      refine q2_i (va_runV (As := [.int y3]) (rest := [.int y2]) ⟨hx, hb, hml, hown, hts⟩ (c_m_outputs l dC dI cI cZ bd t0 y3 _ hc34 _) (cwV 1 hts (q_goodL _ (q_l4 k_1075 k_1076 k_1077 k_64) k_1078) rfl rfl rfl (by decide +kernel) ⟨Nat.le_of_ble_eq_true rfl, Nat.le_of_ble_eq_true rfl⟩) (q_preV qok hKK hPm hDm (va_recv (ci := 9) (q0 := 0) hK hPm rfl rfl)) rfl rfl hl.1 rfl (lv_room (Nat.le_of_ble_eq_true rfl)) d_SlippedStreamsLaw_law_557 ⟨hce, hsl⟩) hDm hPx hap.symm hS hA (fun H locs hPm hDm hPx hap hS => ?_)
      replace hap := hap.symm
      refine lv_icmp_eq (tgt := 614) hx hb d_SlippedStreamsLaw_law_560 (by decide) (fun hc => ?_) (fun hc => ?_)
      · replace h := il_t hc h
        exact jp_614 z0 t34 y1 0 0 0 _ _ _ h hPx hDx hPm hDm hap hS (lv_sub hl [0, 1, 2, 3] rfl)
      · replace h := il_f hc h
        refine lv_iconst (v := 0) hx hb d_SlippedStreamsLaw_law_563 (by decide) ?_
        exact absurd (Option.some.inj h) (by decide)
    · intro z0 t0 y1 y2 y3 y4 H locs ls h hPx hDx hPm hDm hap hS hl
      replace h : lw_g584 xs L (lw_f xs L n) z0 t0 y1 y2 y3 y4 = some 1 := h
      unfold lw_g584 at h
      obtain ⟨r35, z35, hc35, h⟩ := oln_e h
      refine q2_i (va_runV (As := [.int y2, .int y3]) (rest := []) ⟨hx, hb, hml, hown, hts⟩ (c_x_output l dC dI cI cZ ad z0 y2 y3 _ hc35 _) (cwV 2 hts (q_goodL _ (q_l4 k_799 k_800 k_801 k_53) k_802) rfl rfl rfl (by decide +kernel) ⟨Nat.le_of_ble_eq_true rfl, Nat.le_of_ble_eq_true rfl⟩) (q_preV qok hKK hPx hDx (va_recv (ci := 0) (q0 := 0) hK hPx rfl rfl)) rfl rfl hl.1 rfl (lv_room (Nat.le_of_ble_eq_true rfl)) d_SlippedStreamsLaw_law_584 ⟨hce, hsl⟩) hDx hPm hap hS hA (fun H locs hPx hDx hPm hap hS => ?_)
      refine lv_aload_n hx hb d_SlippedStreamsLaw_law_587 rfl (lv_at hl 2 rfl) ?_
      refine lv_aload_n hx hb d_SlippedStreamsLaw_law_588 rfl (lv_at hl 0 rfl) ?_
      refine lv_iload_n hx hb d_SlippedStreamsLaw_law_589 rfl (lv_at hl 3 rfl) ?_
      refine lv_iconst (v := 1) hx hb d_SlippedStreamsLaw_law_590 (by decide) ?_
      refine lv_iadd hx hb d_SlippedStreamsLaw_law_591 ?_
      obtain ⟨hi, h⟩ := gil_e h
      refine va_sld hx hb hX hbl hbA hS hi d_SlippedStreamsLaw_law_592 ?_
      refine lv_aload_n hx hb d_SlippedStreamsLaw_law_593 rfl (lv_at hl 0 rfl) ?_
      refine lv_iload_n hx hb d_SlippedStreamsLaw_law_594 rfl (lv_at hl 3 rfl) ?_
      refine lv_iconst (v := 2) hx hb d_SlippedStreamsLaw_law_595 (by decide) ?_
      refine lv_iadd hx hb d_SlippedStreamsLaw_law_596 ?_
      obtain ⟨hi, h⟩ := gil_e h
      refine va_sld hx hb hX hbl hbA hS hi d_SlippedStreamsLaw_law_597 ?_
      refine lv_if_eq (tgt := 605) hx hb d_SlippedStreamsLaw_law_598 (by decide) (fun hc => ?_) (fun hc => ?_)
      · replace h := il_t hc h
        refine lv_iconst (v := 0) hx hb d_SlippedStreamsLaw_law_605 (by decide) ?_
        exact jp_606 z35 t0 y1 r35 (xs (y1 + 1).toNatClampNeg) 0 _ _ _ h hPx hDx hPm hDm hap hS (lv_sub hl [0, 1, 2, 3] rfl)
      · replace h := il_f hc h
        refine lv_iconst (v := 1) hx hb d_SlippedStreamsLaw_law_601 (by decide) ?_
        refine lv_goto (tgt := 606) hx hb d_SlippedStreamsLaw_law_602 (by decide) ?_
        exact jp_606 z35 t0 y1 r35 (xs (y1 + 1).toNatClampNeg) 1 _ _ _ h hPx hDx hPm hDm hap hS (lv_sub hl [0, 1, 2, 3] rfl)
    · intro z0 t0 y1 y2 y3 y4 H locs ls h hPx hDx hPm hDm hap hS hl
      replace h : lw_g606 xs L (lw_f xs L n) z0 t0 y1 y2 y3 y4 = some 1 := h
      unfold lw_g606 at h
      obtain ⟨r36, t36, hc36, h⟩ := oln_e h
      refine q2_i (va_runV (As := [.int y3, .int y4]) (rest := [.int y2]) ⟨hx, hb, hml, hown, hts⟩ (c_m_output l dC dI cI cZ bd t0 y3 y4 _ hc36 _) (cwV 2 hts (q_goodL _ (q_l4 k_1079 k_1080 k_1081 k_64) k_1082) rfl rfl rfl (by decide +kernel) ⟨Nat.le_of_ble_eq_true rfl, Nat.le_of_ble_eq_true rfl⟩) (q_preV qok hKK hPm hDm (va_recv (ci := 9) (q0 := 0) hK hPm rfl rfl)) rfl rfl hl.1 rfl (lv_room (Nat.le_of_ble_eq_true rfl)) d_SlippedStreamsLaw_law_606 ⟨hce, hsl⟩) hDm hPx hap.symm hS hA (fun H locs hPm hDm hPx hap hS => ?_)
      replace hap := hap.symm
      refine lv_icmp_eq (tgt := 614) hx hb d_SlippedStreamsLaw_law_609 (by decide) (fun hc => ?_) (fun hc => ?_)
      · replace h := il_t hc h
        exact jp_614 z0 t36 y1 0 0 0 _ _ _ h hPx hDx hPm hDm hap hS (lv_sub hl [0, 1, 2, 3] rfl)
      · replace h := il_f hc h
        refine lv_iconst (v := 0) hx hb d_SlippedStreamsLaw_law_612 (by decide) ?_
        exact absurd (Option.some.inj h) (by decide)
    · intro z0 t0 y1 y2 y3 y4 H locs ls h hPx hDx hPm hDm hap hS hl
      replace h : lw_g614 xs L (lw_f xs L n) z0 t0 y1 y2 y3 y4 = some 1 := h
      unfold lw_g614 at h
      refine lv_iinc (k := 3) (v := y1 + 5) (lv' := [(3, .int (y1 + 5)), (0, .ref b), (1, .ref (ad 0)), (2, .ref (bd 0))]) hx hb d_SlippedStreamsLaw_law_614 hl rfl rfl (by decide) rfl (fun ls hl => ?_)
      refine lv_goto (tgt := 18) hx hb d_SlippedStreamsLaw_law_617 (by decide) ?_
      exact jp_18 z0 t0 (y1 + 5) 0 0 0 _ _ _ h hPx hDx hPm hDm hap hS (lv_sub hl [1, 2, 3, 0] rfl)
