theorem fW_R8 {t : ST} {h0 r : Int32} (hr : R8 r) : fW t h0 r = fV t h0 r := by
  obtain ⟨i, hi, hie, -⟩ := R8_cl hr
  rw [fW, if_pos]
  rw [hie, ← nI_0]; exact nI_le (by omega) (by omega)
theorem mw5 {n : Nat} {t : ST} {y1 y2 y3 y4 y5 y6 y7 y8 : Int32} : m_work_f (n + 1) 5 t y1 y2 y3 y4 y5 y6 y7 y8 = m_work_f n 6 t y1 y2 y3 y4 y5 y6 0 0 := rfl
theorem mw6 {n : Nat} {t : ST} {y1 y2 y3 y4 y5 y6 y7 y8 : Int32} : m_work_f (n + 1) 6 t y1 y2 y3 y4 y5 y6 y7 y8 = m_work_g129 (m_work_f n) t y1 y2 y3 y4 y5 y6 y7 y8 := rfl
theorem mw7 {n : Nat} {t : ST} {y1 y2 y3 y4 y5 y6 y7 y8 : Int32} : m_work_f (n + 1) 7 t y1 y2 y3 y4 y5 y6 y7 y8 = m_work_g151 (m_work_f n) t y1 y2 y3 y4 y5 y6 y7 y8 := rfl
theorem mw8 {n : Nat} {t : ST} {y1 y2 y3 y4 y5 y6 y7 y8 : Int32} : m_work_f (n + 1) 8 t y1 y2 y3 y4 y5 y6 y7 y8 = m_work_g221 (m_work_f n) t y1 y2 y3 y4 y5 y6 y7 y8 := rfl
theorem mw9 {n j : Nat} {t : ST} {y2 y3 y4 y5 y6 y7 y8 : Int32} (hj : j < 24) : m_work_f (n + 2) 9 t (nI j) y2 y3 y4 y5 y6 y7 y8 = obn (m_leave t 1 (if y6 = 0 then nI j + 1 else t.2 3 j)) (fun _ z => some (1, z)) := by
  show m_work_g222 (m_work_f (n + 1)) t (nI j) y2 y3 y4 y5 y6 y7 y8 = _
  have s : ∀ a, m_work_f (n + 1) 10 t (nI j) y2 y3 y4 y5 y6 1 a = obn (m_leave t 1 a) (fun _ z => some (1, z)) := fun a => rfl
  simp only [m_work_g222, s, gin_n hj (by decide : 24 < 2 ^ 31), cl_n (show j < 2 ^ 31 by omega)]
  by_cases q : y6 = 0
  · rw [if_pos q, if_pos q]
  · rw [if_neg q, if_neg q]
theorem fR1_8 {a b : Int32} : fR1 8 a b = a := by simp (decide := true) [fR1]
theorem fR_ar {k a b c : Int32} (h : isAr k) : fR1 k a b = b ∧ fR2 k b c = c := by
  rcases h with h | h | h <;> (subst h; simp (decide := true) [fR1, fR2])
theorem fR_br {k a b c : Int32} (h : k = 6 ∨ k = 7) : fR1 k a b = a ∧ fR2 k b c = b := by
  rcases h with h | h <;> (subst h; simp (decide := true) [fR1, fR2])
/-- an instruction of the value stream is done -/
theorem V_work {bd N j : Nat} {z t : ST} (h : Rel bd N z t) (hbd : bd < 1000000) (hj : j < N) (hb : fBel (t.2 0 j) (t.2 1 j) (t.2 2 j) (t.2 4) = 1) (k4 : ¬ t.2 0 j = 4) : ∃ r z' t', B01 r ∧ x_ValueStream_doOwn_31 z (nI j) = some (r, z') ∧ m_work t (nI j) = some (r, t') ∧ Rel (bd + 1) N z' t' := by
  obtain ⟨hN, -, -, ok, e0, e1, e2, e3, e4, e5, e6, e7⟩ := R_at h hj
  obtain ⟨c, hc, hce⟩ := fHm_n (d := (t.2 4)) (r1 := (fR1 (t.2 0 j) (t.2 1 j) (t.2 2 j))) (r2 := (fR2 (t.2 0 j) (t.2 2 j) (t.2 3 j)))
  obtain ⟨f, n, hf, hn, g1, g2, g3, g4⟩ := Rq_n4 h
  have k5 : ¬ (t.2 0 j) = 5 := by
    intro e
    rw [e, fBel_5] at hb
    revert hb; decide
  have h24 : j < 24 := by omega
  have gj : ∀ x : OR, gin (nI j) 24 x = x := fun x => gin_n h24 (by decide : 24 < 2 ^ 31)
  have cj : (nI j).toNatClampNeg = j := cl_n (show j < 2 ^ 31 by omega)
  have xw : x_ValueStream_doOwn_31 z (nI j) = if n < c then some (0, z) else if fBr (t.2 0 j) = 0 then x_ValueStream_doOwn_31_51 z (nI j) (fBr (t.2 0 j)) else obn (x_Fifo_hasRoomFor_18 z 1) (fun r8 z8 => if r8 = 0 then some (0, z8) else x_ValueStream_doOwn_31_51 z8 (nI j) (fBr (t.2 0 j))) := by
    simp only [x_ValueStream_doOwn_31, x_isBranch_s h24, obn_s, gj, cj, g2, e7, fPc_Hm hb, hce, e0, gib_0]
    by_cases q : n < c
    · rw [if_pos (nI_lt q (by omega)), if_pos q]
    · rw [if_neg (nI_nlt (by omega) (by omega)), if_neg q]
  have mw : m_work t (nI j) = if n < c then some (0, t) else if fBr (t.2 0 j) = 0 then m_work_f 3999 1 t (nI j) (t.2 0 j) (nI c) 0 0 0 0 0 else obn (m_hasRoom t 3 1) (fun r3 z3 => if r3 = 0 then some (0, z3) else m_work_f 3999 1 z3 (nI j) (t.2 0 j) (nI c) 0 0 0 0 0) := by
    show m_work_g0 (m_work_f 3999) t (nI j) 0 0 0 0 0 0 0 = _
    simp only [m_work_g0, gj, cj, m_howMany_s h24 ok, obn_s, hce, gin_r (show inR (4 : Int32) 5 = true by decide), show (4 : Int32).toNatClampNeg = 4 by decide, g3, m_isBranch_s h24, gib_0]
    by_cases q : n < c
    · rw [if_pos (nI_lt q (by omega)), if_pos q]
    · rw [if_neg (nI_nlt (by omega) (by omega)), if_neg q]
  rw [xw, mw]
  by_cases q : n < c
  · exact ⟨0, z, t, Or.inl rfl, by rw [if_pos q], by rw [if_pos q], R_mono h⟩
  · rw [if_neg q, if_neg q]
    obtain ⟨z1, z2, t2, v1, v2, v3, v4, v5, v6, v7, v8, v9⟩ := V_recvs h hj hb g2 hn hce hc (by omega)
    have mm := mw_read (n := 3996) (y2 := t.2 0 j) (y3 := nI c) (y4 := 0) (y5 := 0) (y6 := 0) (y7 := 0) (y8 := 0) h24 ok
    have mt := mw_take (y1 := nI j) (y2 := t.2 0 j) (y4 := (fW t (fH0 (t.2 4) (fR1 (t.2 0 j) (t.2 1 j) (t.2 2 j)) (fR2 (t.2 0 j) (t.2 2 j) (t.2 3 j))) (fR1 (t.2 0 j) (t.2 1 j) (t.2 2 j)))) (y5 := (fW t (fH0 (t.2 4) (fR1 (t.2 0 j) (t.2 1 j) (t.2 2 j)) (fR2 (t.2 0 j) (t.2 2 j) (t.2 3 j))) (fR2 (t.2 0 j) (t.2 2 j) (t.2 3 j)))) hc c 0 (3990 - c + 5) t t2 0 0 v3 (by omega)
    rw [nI_0, show 3990 - c + 5 + c + 1 = 3996 by omega] at mt
    rw [mt] at mm
    have zk : ∀ q, q < 10 → z2.2 q j = z.2 q j := fun q hq => by rw [v5.1 q hq]
    have tk : ∀ q, q < 5 → t2.2 q j = t.2 q j := fun q hq => by rw [v5.2.2.2.1 q hq]
    obtain ⟨ia, hia, hae, hac, hair, -⟩ := R8_cl ok.1
    obtain ⟨i16, c16⟩ := R8_8 hia hae
    rw [m_isBranch_s h24, tk 0 (by decide), obn_s] at mm
    generalize 3990 - c = M at mm
    rcases fBr_s ok with ⟨b0, n6, n7⟩ | ⟨b1, k67⟩
    · rw [b0, if_pos rfl, if_pos rfl]
      rw [if_pos b0, mw5, mw6] at mm
      simp only [m_work_g129, m_isBranch_s h24, tk 0 (by decide), obn_s, b0, if_true, gj, cj, tk 1 (by decide), tk 3 (by decide)] at mm
      have x51 : x_ValueStream_doOwn_31_51 z (nI j) 0 = if t.2 0 j = 8 then obn (x_Written_write_33 z2 (z2.2 21 ia)) (fun _ z5 => x_ValueStream_doOwn_31_137 z5 (nI j) 0) else obn (x_Run_compute_31 z2 (nI j)) (fun _ z4 => x_ValueStream_doOwn_31_137 z4 (nI j) 0) := by
        simp only [x_ValueStream_doOwn_31_51, gj, cj, v1, v2, obn_s, if_true, zk 0 (by decide), zk 1 (by decide), e0, e1, gin_r hair, hac]
      rw [x51]
      by_cases k8 : t.2 0 j = 8
      · rw [if_pos k8]
        rw [if_pos k8] at mm
        have r1 : fR1 (t.2 0 j) (t.2 1 j) (t.2 2 j) = t.2 1 j := by rw [k8, fR1_8]
        have rv := v9 (t.2 1 j) ok.1 (Or.inl r1.symm)
        rw [r1, fW_R8 ok.1] at mm
        rw [r1, hac] at rv
        obtain ⟨z3, t3, o1, o2, o3, o4, o5⟩ := R_out (v := z2.2 21 ia) v4 hbd
        obtain ⟨z', t', l1, l2, l3, l4⟩ := V_leave (j := j) o4 h24
        refine ⟨1, z', t', Or.inr rfl, ?_, ?_, l3⟩
        · rw [o1, obn_s]
          simp only [x_ValueStream_doOwn_31_137, l1, obn_s, gib_1]
        · rw [show (3999 : Nat) = 3996 + 3 from rfl, mm, ← rv, o2, obn_s, bnd_s, o3, mw9 h24, if_pos rfl, l2, obn_s]
      · rw [if_neg k8]
        rw [if_neg k8] at mm
        have sa := okI_sa ok k4 k5 n6 n7 k8
        have xc := x_comp31 (z := z2) (j := j) h24 (by rw [zk 1 (by decide), e1]; exact ok.1) (by rw [zk 0 (by decide), zk 2 (by decide), zk 3 (by decide), e0, e2, e3]; exact sa)
        rw [zk 0 (by decide), zk 1 (by decide), zk 2 (by decide), zk 3 (by decide), e0, e1, e2, e3, hac] at xc
        have mv : m_work_f (3996 + 3) 1 t (nI j) (t.2 0 j) (nI c) 0 0 0 0 0 = obn (m_leave (stA t2 5 (upd (t2.2 5) (8 + ia) (fOp (t.2 0 j) (z2.2 21 (t.2 2 j).toNatClampNeg) (z2.2 21 (t.2 3 j).toNatClampNeg) (t.2 3 j)))) 1 (nI j + 1)) (fun _ z => some (1, z)) := by
          rw [mm]
          rcases sa with s | ⟨s, bb, cc⟩
          · rw [if_pos s, s, mw8]
            simp only [m_work_g221, gin_r i16, c16, bnd_s, fOp, if_true]
            rw [mw9 h24, if_pos rfl]
          · have nz : ¬ (t.2 0 j) = 0 := by rcases s with s | s | s <;> (rw [s]; decide)
            obtain ⟨f1, f2⟩ := fR_ar (a := t.2 1 j) (b := t.2 2 j) (c := t.2 3 j) s
            have w1 := v9 (t.2 2 j) bb (Or.inl f1.symm)
            have w2 := v9 (t.2 3 j) cc (Or.inr f2.symm)
            rw [f1, f2] at w1 w2
            rw [if_neg nz, f1, f2, fW_R8 bb, fW_R8 cc, ← w1, ← w2, m_reckon_s (c := (t.2 3 j)) t2 s, obn_s, mw8]
            simp only [m_work_g221, gin_r i16, c16, bnd_s]
            rw [mw9 h24, if_pos rfl]
        obtain ⟨z', t', l1, l2, l3, l4⟩ := V_leave (j := j) (R_regV (v := (fOp (t.2 0 j) (z2.2 21 (t.2 2 j).toNatClampNeg) (z2.2 21 (t.2 3 j).toNatClampNeg) (t.2 3 j))) v4 hia) h24
        refine ⟨1, z', t', Or.inr rfl, ?_, ?_, R_mono l3⟩
        · rw [xc, obn_s]
          simp only [x_ValueStream_doOwn_31_137, l1, obn_s, gib_1]
        · rw [show (3999 : Nat) = 3996 + 3 from rfl, mv, l2, obn_s]
    · rw [b1, if_neg (by decide), if_neg (by decide)]
      obtain ⟨qf, m, hqf, hm, y1, y2, y3, y4⟩ := Rq_n3 h
      have xroom := xq_room3 (z := z) (n := m) (m := 1) hm (by decide) y2
      have mroom := mq_room (t := t) (q := 3) (n := m) (m := 1) (x := 3) (by decide) (by decide) (by omega) (by decide) y3
      rw [show nI 1 = (1 : Int32) by decide] at xroom mroom
      rw [if_neg (show ¬ (3 : Nat) = 4 by decide)] at mroom
      rw [xroom, mroom, obn_s, obn_s]
      by_cases e : m + 1 ≤ 4
      · rw [if_pos e, if_neg (by decide), if_neg (by decide)]
        obtain ⟨hbb, hcb⟩ := okI_br ok k67
        obtain ⟨f1, f2⟩ := fR_br (a := t.2 1 j) (b := t.2 2 j) (c := t.2 3 j) k67
        have w1 := v9 (t.2 1 j) ok.1 (Or.inl f1.symm)
        have w2 := v9 (t.2 2 j) hbb (Or.inr f2.symm)
        rw [f1, f2] at w1 w2
        rw [if_neg (by rw [b1]; decide), f1, f2, fW_R8 ok.1, fW_R8 hbb, ← w1, ← w2, m_holds_s, obn_s] at mm
        have xt := x_test31 (z := z2) (j := j) h24 (by rw [zk 1 (by decide), e1]; exact ok.1) (by rw [zk 2 (by decide), e2]; exact hbb)
        rw [zk 0 (by decide), zk 1 (by decide), zk 2 (by decide), e0, e1, e2] at xt
        have o01 := fTst_01 (k := t.2 0 j) (x := z2.2 21 (t.2 1 j).toNatClampNeg) (y := z2.2 21 (t.2 2 j).toNatClampNeg)
        generalize fTst (t.2 0 j) (z2.2 21 (t.2 1 j).toNatClampNeg) (z2.2 21 (t.2 2 j).toNatClampNeg) = o at mm xt o01
        obtain ⟨z3, t3, p1, p2, p3, p4, -⟩ := Rq_put3 (n := m) (v := o) v4 (by omega) (by rw [recv_10 v2, recv_10 v1]; exact y2) o01
        have tc : t3.2 3 j = t.2 3 j := by rw [p4.2.2.2.1 3 (by decide)]; exact tk 3 (by decide)
        have zc : z3.2 3 j = t.2 3 j := by rw [p4.1 3 (by decide), zk 3 (by decide)]; exact e3
        obtain ⟨na, hna, hne⟩ := nxt (o := o) (c := t.2 3 j) (j := j) h24 hcb
        obtain ⟨z', t', l1, l2, l3, l4⟩ := L_leave1 (a := na) p3 hne hna
        refine ⟨1, z', t', Or.inr rfl, ?_, ?_, R_mono l3⟩
        · have s16 : ∀ y, y = o → x_Stream_sendOutcome_31_18_16 z2 (nI j) o y = some (1, z') := by
            intro y hy
            subst hy
            simp only [x_Stream_sendOutcome_31_18_16, p1, obn_s, x_behind31 (z := z3) (j := j) h24, zc, l1, gib_1]
          have so : x_Stream_sendOutcome_31_18 z2 (nI j) = some (1, z') := by
            simp only [x_Stream_sendOutcome_31_18, xt, obn_s]
            rcases o01 with q | q
            · rw [if_pos q]; exact s16 0 q.symm
            · rw [if_neg (by rw [q]; decide)]; exact s16 1 q.symm
          have n10 : ¬ (1 : Int32) = 0 := by decide
          simp only [x_ValueStream_doOwn_31_51, gj, cj, v1, v2, obn_s, if_neg n10, so, gib_1]
        · rw [show (3999 : Nat) = 3996 + 3 from rfl, mm]
          have nb : ¬ fBr (t.2 0 j) = 0 := by rw [b1]; decide
          rcases o01 with q | q
          · rw [if_pos q, mw5, mw6]
            simp only [m_work_g129, m_isBranch_s h24, tk 0 (by decide), obn_s, if_neg nb, if_true]
            rw [q] at p2 l2
            rw [mw7]
            simp only [m_work_g151, p2, obn_s]
            rw [mw9 h24, tc, l2, obn_s]
          · have n10 : ¬ (1 : Int32) = 0 := by decide
            rw [if_neg (by rw [q]; decide), mw6]
            simp only [m_work_g129, m_isBranch_s h24, tk 0 (by decide), obn_s, if_neg nb, if_neg n10]
            rw [q] at p2 l2
            rw [mw7]
            simp only [m_work_g151, p2, obn_s]
            rw [mw9 h24, tc, l2, obn_s]
      · refine ⟨0, z, t, Or.inl rfl, by rw [if_neg e, if_pos rfl], by rw [if_neg e, if_pos rfl], R_mono h⟩
