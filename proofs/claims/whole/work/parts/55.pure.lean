/-- what is known of instruction j -/
theorem R_at {bd N j : Nat} {z t : ST} (h : Rel bd N z t) (hj : j < N) : N ≤ 24 ∧ z.1 1 = nI N ∧ t.1 0 = nI N ∧ okI (t.2 0 j) (t.2 1 j) (t.2 2 j) (t.2 3 j) ∧ z.2 0 j = t.2 0 j ∧ z.2 1 j = t.2 1 j ∧ z.2 2 j = t.2 2 j ∧ z.2 3 j = t.2 3 j ∧ z.2 4 j = fBel (t.2 0 j) (t.2 1 j) (t.2 2 j) (t.2 4) ∧ z.2 5 j = fP1 (t.2 0 j) (t.2 1 j) (t.2 2 j) (t.2 4) ∧ z.2 6 j = fP2 (t.2 0 j) (t.2 1 j) (t.2 2 j) (t.2 3 j) (t.2 4) ∧ z.2 7 j = fPc (t.2 0 j) (t.2 1 j) (t.2 2 j) (t.2 3 j) (t.2 4) := by
  obtain ⟨hP, hM, hD, hT, hF, hme, q0, q1, q2, q3, q4, hS, hA, hV, ha, hb, la, lb, hs, hl, hW, pr, pm, pa, pw⟩ := h
  obtain ⟨h1, h2, h3, h4⟩ := hP
  obtain ⟨e0, e1, e2, e3, e4⟩ := h4 j hj
  obtain ⟨b0, b1, b2, b3, -, -⟩ := hT j hj
  rw [e0, e1, e2] at b0 b1
  rw [e0, e1, e2, e3] at b2 b3
  exact ⟨h1, h2, h3, e4, e0, e1, e2, e3, b0, b1, b2, b3⟩
theorem R_mb {bd N : Nat} {z t : ST} (h : Rel bd N z t) : MB (z.1 2) (t.2 4) ∧ (∀ q, q < 8 → B01 (t.2 4 q)) ∧ eqB 8 0 (z.2 20) (t.2 5) ∧ (∀ j, j < 8 → t.2 4 j = 0 → z.2 21 j = t.2 5 (8 + j)) ∧ eqB 32 0 (z.2 11) (t.2 8) ∧ (z.1 17 = t.1 3 ∧ B01 (t.1 3)) := by
  obtain ⟨hP, hM, hD, hT, hF, hme, q0, q1, q2, q3, q4, hS, hA, hV, ha, hb, la, lb, hs, hl, hW, pr, pm, pa, pw⟩ := h
  exact ⟨hM, hD, hA, hV, hme, hs rfl⟩
theorem R_aa {bd N : Nat} {z t : ST} (h : Rel bd N z t) : RAt (z.1 15) (t.2 6 0) ∧ RAt (z.1 18) (t.2 6 1) := by
  obtain ⟨hP, hM, hD, hT, hF, hme, q0, q1, q2, q3, q4, hS, hA, hV, ha, hb, la, lb, hs, hl, hW, pr, pm, pa, pw⟩ := h
  exact ⟨ha, hb.1⟩
theorem R_5 {bd N : Nat} {z t : ST} {v : Int32} (h : Rel bd N z t) : Rel bd N z (stI t 5 v) := by
  obtain ⟨hP, hM, hD, hT, hF, hme, q0, q1, q2, q3, q4, hS, hA, hV, ha, hb, la, lb, hs, hl, hW, pr, pm, pa, pw⟩ := h
  exact ⟨hP, hM, hD, hT, hF, hme, q0, q1, q2, q3, q4, hS, hA, hV, ha, hb, la, lb, hs, hl, hW, pr, pm, pa, pw⟩
theorem R_sent {bd N : Nat} {z t : ST} {v : Int32} (h : Rel bd N z t) (hv : B01 v) : Rel bd N (stI z 17 v) (stI t 3 v) := by
  obtain ⟨hP, hM, hD, hT, hF, hme, q0, q1, q2, q3, q4, hS, hA, hV, ha, hb, la, lb, hs, hl, hW, pr, pm, pa, pw⟩ := h
  have hs : true = true → v = v ∧ B01 v := fun _ => ⟨rfl, hv⟩
  exact ⟨hP, hM, hD, hT, hF, hme, q0, q1, q2, q3, q4, hS, hA, hV, ha, hb, la, lb, hs, hl, hW, pr, pm, pa, pw⟩
theorem R_regA {bd N a : Nat} {z t : ST} {v : Int32} (h : Rel bd N z t) (h8 : a < 8) : Rel bd N (stA z 20 (upd (z.2 20) a v)) (stA t 5 (upd (t.2 5) a v)) := by
  obtain ⟨hP, hM, hD, hT, hF, hme, q0, q1, q2, q3, q4, hS, hA, hV, ha, hb, la, lb, hs, hl, hW, pr, pm, pa, pw⟩ := h
  have hA' : eqB 8 0 (upd (z.2 20) a v) (upd (t.2 5) a v) := by
    intro j hj
    have := hA j hj
    rw [Nat.zero_add] at this
    simp only [upd, Nat.zero_add, this]
  have hV' : ∀ j, j < 8 → t.2 4 j = 0 → z.2 21 j = upd (t.2 5) a v (8 + j) := by
    intro j hj h0
    simp only [upd]
    rw [if_neg (by omega)]
    exact hV j hj h0
  exact ⟨hP, hM, hD, hT, hF, hme, q0, q1, q2, q3, q4, hS, hA', hV', ha, hb, la, lb, hs, hl, hW, pr, pm, pa, pw⟩
theorem R_regV {bd N a : Nat} {z t : ST} {v : Int32} (h : Rel bd N z t) (h8 : a < 8) : Rel bd N (stA z 21 (upd (z.2 21) a v)) (stA t 5 (upd (t.2 5) (8 + a) v)) := by
  obtain ⟨hP, hM, hD, hT, hF, hme, q0, q1, q2, q3, q4, hS, hA, hV, ha, hb, la, lb, hs, hl, hW, pr, pm, pa, pw⟩ := h
  have hA' : eqB 8 0 (z.2 20) (upd (t.2 5) (8 + a) v) := by
    intro j hj
    have := hA j hj
    rw [Nat.zero_add] at this ⊢
    simp only [upd]
    rw [if_neg (by omega)]
    exact this
  have hV' : ∀ j, j < 8 → t.2 4 j = 0 → upd (z.2 21) a v j = upd (t.2 5) (8 + a) v (8 + j) := by
    intro j hj h0
    simp only [upd]
    by_cases e : j = a
    · rw [if_pos e, if_pos (by omega)]
    · rw [if_neg e, if_neg (by omega)]
      exact hV j hj h0
  exact ⟨hP, hM, hD, hT, hF, hme, q0, q1, q2, q3, q4, hS, hA', hV', ha, hb, la, lb, hs, hl, hW, pr, pm, pa, pw⟩
/-- the class's copy of an address register in the value stream doesn't count -/
theorem R_cpV {bd N a : Nat} {z t : ST} {v : Int32} (h : Rel bd N z t) (h1 : ¬ t.2 4 a = 0) : Rel bd N (stA z 21 (upd (z.2 21) a v)) t := by
  obtain ⟨hP, hM, hD, hT, hF, hme, q0, q1, q2, q3, q4, hS, hA, hV, ha, hb, la, lb, hs, hl, hW, pr, pm, pa, pw⟩ := h
  have hV' : ∀ j, j < 8 → t.2 4 j = 0 → upd (z.2 21) a v j = t.2 5 (8 + j) := by
    intro j hj h0
    simp only [upd]
    rw [if_neg (fun e => h1 (by rw [← e]; exact h0))]
    exact hV j hj h0
  exact ⟨hP, hM, hD, hT, hF, hme, q0, q1, q2, q3, q4, hS, hA, hV', ha, hb, la, lb, hs, hl, hW, pr, pm, pa, pw⟩
/-- the word that an instruction names -/
theorem W_s {bd N j : Nat} {z t : ST} (h : Rel bd N z t) (hj : j < N) (hb : R8 (t.2 2 j)) : ∃ w : Nat, w < 32 ∧ x_Run_wordAddress_29 z (nI j) = some (nI w, z) ∧ ((t.2 5 (t.2 2 j).toNatClampNeg) + (t.2 3 j)) &&& 31 = nI w ∧ inR (t.2 2 j) 16 = true := by
  obtain ⟨hN, -, -, -, -, -, e2, e3, -⟩ := R_at h hj
  obtain ⟨-, -, hA, -⟩ := R_mb h
  obtain ⟨i, hi, hie, hic, hir, -⟩ := R8_cl hb
  obtain ⟨w, hw, he⟩ := pk_andE ((t.2 5 (t.2 2 j).toNatClampNeg) + (t.2 3 j)) (m := 31) 5 (by decide)
  have ha := hA i hi
  rw [Nat.zero_add] at ha
  refine ⟨w, hw, ?_, he, by rw [hie]; exact inR_n (by omega) (by decide)⟩
  simp only [x_Run_wordAddress_29, gin_n (show j < 24 by omega) (by decide : 24 < 2 ^ 31), cl_n (show j < 2 ^ 31 by omega), e2, e3, gin_r hir]
  rw [hic, ha, ← hic, he]
theorem A_leave {bd N j : Nat} {z t : ST} (h : Rel bd N z t) (hj : j < 24) : ∃ z' t', x_Stream_leaveFor_29 z (nI j + 1) = some (1, z') ∧ m_leave t 0 (nI j + 1) = some (0, t') ∧ Rel bd N z' t' ∧ LV 15 16 z z' t t' := L_leave0 (a := j + 1) h (nI_1 j) (by omega)
/-- a load of the address stream, for itself or for the other -/
theorem A_load {bd N j : Nat} {z t : ST} (h : Rel bd N z t) (hj : j < N) (hk : t.2 0 j = 4) : ∃ r z' t', B01 r ∧ (if fBel (t.2 0 j) (t.2 1 j) (t.2 2 j) (t.2 4) = 0 then x_AddressStream_load_29 z (nI j) else x_AddressStream_sendLoad_29 z (nI j)) = some (r, z') ∧ m_load t (nI j) = some (r, t') ∧ Rel bd N z' t' ∧ t'.1 5 = t.1 5 ∧ (r = 0 → z' = z) := by
  have hat := R_at h hj
  obtain ⟨hN, -, -, ok, e0, e1, e2, e3, -⟩ := hat
  have hb : R8 (t.2 2 j) := okI_ls ok (Or.inl hk)
  obtain ⟨w, hw, w1, w2, w3⟩ := W_s h hj hb
  obtain ⟨b, hb01, i1, i2⟩ := Rs_in (a := nI w) h
  obtain ⟨ia, hia, hae, hac, hair, -⟩ := R8_cl ok.1
  have hme := (R_mb h).2.2.2.2.1 w hw
  rw [Nat.zero_add] at hme
  have m1 : m_load t (nI j) = m_load_35 t (nI j) (nI w) (if fBel (t.2 0 j) (t.2 1 j) (t.2 2 j) (t.2 4) = 0 then 1 else 0) := by
    simp only [m_load, gin_n (show j < 24 by omega) (by decide : 24 < 2 ^ 31), cl_n (show j < 2 ^ 31 by omega), gin_r w3, m_belongs_s (show j < 24 by omega) ok, obn_s, w2]
    split <;> rfl
  rcases hb01 with hb0 | hb1
  · subst hb0
    by_cases own : fBel (t.2 0 j) (t.2 1 j) (t.2 2 j) (t.2 4) = 0
    · have r1 := R_regA (a := ia) (v := z.2 11 w) h hia
      obtain ⟨z', t', k1, k2, k3, k4⟩ := A_leave (j := j) r1 (by omega)
      refine ⟨1, z', t', Or.inr rfl, ?_, ?_, k3, by rw [k4.2.2.1]; rfl, fun h => absurd h (by decide)⟩
      · rw [if_pos own]
        simp only [x_AddressStream_load_29, w1, obn_s, i1, if_true, gin_n (show j < 24 by omega) (by decide : 24 < 2 ^ 31), cl_n (show j < 2 ^ 31 by omega), gin_n hw (by decide : 32 < 2 ^ 31), cl_n (show w < 2 ^ 31 by omega), e1, gin_r hair, hac, bnd_s, k1, gib_1]
      · rw [m1, if_pos own]
        simp (decide := true) only [m_load_35, i2, obn_s, if_true, if_false, m_load_59, gin_n (show j < 24 by omega) (by decide : 24 < 2 ^ 31), cl_n (show j < 2 ^ 31 by omega), gin_n hw (by decide : 32 < 2 ^ 31), cl_n (show w < 2 ^ 31 by omega), bnd_s]
        rw [gin_r (show inR (t.2 1 j) 16 = true by rw [hae]; exact inR_n (by omega) (by decide)), hac, ← hme]
        simp only [m_load_94, k2, obn_s, gib_1]
    · obtain ⟨f, n, hf, hn, h1, h2, h3, h4⟩ := Rq_n0 h
      have x1 : x_AddressStream_sendLoad_29 z (nI j) = if n + 1 ≤ 4 then obn (x_Fifo_put_15 z (z.2 11 w)) (fun _ z4 => obn (x_Stream_leaveFor_29 z4 (nI j + 1)) (fun r5 z5 => gib r5 (some (r5, z5)))) else some (0, z) := by
        simp only [x_AddressStream_sendLoad_29, w1, obn_s, i1, if_true, show (1 : Int32) = nI 1 by decide, xq_room0 hn (show 1 ≤ 2 by decide) h2, gin_n hw (by decide : 32 < 2 ^ 31), cl_n (show w < 2 ^ 31 by omega), gib_0]
        by_cases e : n + 1 ≤ 4
        · simp (decide := true) only [if_pos e, if_false]
        · simp (decide := true) only [if_neg e, if_true]
      have y1 : m_load t (nI j) = if n + 1 ≤ 4 then obn (m_put t 0 (t.2 8 w)) (fun _ z2 => m_load_94 z2 (nI j) (nI w) 0) else some (0, t) := by
        rw [m1, if_neg own]
        have e := mq_room (t := t) (q := 0) (n := n) (m := 1) (x := 0) (by decide) (by decide) (by omega) (by decide) h3
        rw [show nI 1 = (1 : Int32) by decide] at e
        simp (decide := true) only [m_load_35, i2, obn_s, if_true, if_false, e, m_load_59, gin_n hw (by decide : 32 < 2 ^ 31), cl_n (show w < 2 ^ 31 by omega), gib_0]
        by_cases e : n + 1 ≤ 4
        · simp (decide := true) only [if_pos e, if_false]
        · simp (decide := true) only [if_neg e, if_true]
      rw [if_neg own, x1, y1]
      by_cases e : n + 1 ≤ 4
      · obtain ⟨z1, t1, a1, a2, a3, a4, a5, a6⟩ := Rq_put0 (n := n) (v := z.2 11 w) h (by omega) h2 trivial
        obtain ⟨z', t', k1, k2, k3, k4⟩ := A_leave (j := j) a3 (by omega)
        refine ⟨1, z', t', Or.inr rfl, ?_, ?_, k3, by rw [k4.2.2.1]; exact a6.2.2.2.2.2.2.2, fun h => absurd h (by decide)⟩
        · rw [if_pos e, a1]
          simp only [obn_s, k1, gib_1]
        · rw [if_pos e, ← hme, a2]
          simp only [obn_s, m_load_94, k2, gib_1]
      · exact ⟨0, z, t, Or.inl rfl, by rw [if_neg e], by rw [if_neg e], h, rfl, fun _ => rfl⟩
  · subst hb1
    refine ⟨0, z, t, Or.inl rfl, ?_, ?_, h, rfl, fun _ => rfl⟩
    · split
      · simp (decide := true) only [x_AddressStream_load_29, w1, obn_s, i1, if_false, gib_0]
      · simp (decide := true) only [x_AddressStream_sendLoad_29, w1, obn_s, i1, if_false, gib_0]
    · rw [m1]
      simp (decide := true) only [m_load_35, i2, obn_s, if_false, gib_0]
