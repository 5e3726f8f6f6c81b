theorem V_leave {bd N j : Nat} {z t : ST} (h : Rel bd N z t) (hj : j < 24) : ∃ z' t', x_Stream_leaveFor_31 z (nI j + 1) = some (1, z') ∧ m_leave t 1 (nI j + 1) = some (0, t') ∧ Rel bd N z' t' ∧ LV 18 19 z z' t t' := L_leave1 (a := j + 1) h (nI_1 j) (by omega)
theorem R8_8 {a : Int32} {i : Nat} (hi : i < 8) (h : a = nI i) : inR (8 + a) 16 = true ∧ (8 + a).toNatClampNeg = 8 + i := by
  subst h
  rw [show (8 : Int32) = nI 8 by decide, nI_add]
  exact ⟨inR_n (by omega) (by decide), cl_n (by omega)⟩
/-- a load is received -/
theorem V_load {bd N j : Nat} {z t : ST} (h : Rel bd N z t) (hj : j < N) : ∃ r z' t', B01 r ∧ x_ValueStream_receiveLoad_31 z (nI j) = some (r, z') ∧ (if t.2 10 0 = 0 then some (0, t) else obn (m_take t 0) (fun r3 z3 => gin (8 + t.2 1 j) 16 (bnd (stA z3 5 (upd (z3.2 5) (8 + t.2 1 j).toNatClampNeg r3)) (fun z4 => obn (m_leave z4 1 (nI j + 1)) (fun _ z5 => some (1, z5)))))) = some (r, t') ∧ Rel bd N z' t' := by
  obtain ⟨hN, -, -, ok, e0, e1, e2, e3, -⟩ := R_at h hj
  obtain ⟨f, n, hf, hn, g1, g2, g3, g4⟩ := Rq_n0 h
  obtain ⟨ia, hia, hae, hac, hair, -⟩ := R8_cl ok.1
  obtain ⟨i16, c16⟩ := R8_8 hia hae
  by_cases hn0 : n = 0
  · subst hn0
    refine ⟨0, z, t, Or.inl rfl, ?_, ?_, h⟩
    · simp only [x_ValueStream_receiveLoad_31, g2, nI_0, if_true, gib_0]
    · rw [g3, nI_0, if_pos rfl]
  · obtain ⟨v, z1, t1, a1, a2, a3, a4, a5, a6, a7, a8, a9, a10, a11, a12, a13, a14, a15⟩ := Rq_take0 (n := n) h (by omega) hn g2
    obtain ⟨z', t', k1, k2, k3, k4⟩ := V_leave (j := j) (R_regV (v := v) a5 hia) (by omega)
    refine ⟨1, z', t', Or.inr rfl, ?_, ?_, k3⟩
    · simp only [x_ValueStream_receiveLoad_31, g2, if_neg (nI_ne0 (show 0 < n by omega) (by omega)), gin_n (show j < 24 by omega) (by decide : 24 < 2 ^ 31), cl_n (show j < 2 ^ 31 by omega), a1, obn_s, e1, gin_r hair, hac, bnd_s, k1, gib_1]
    · rw [g3, if_neg (nI_ne0 (show 0 < n by omega) (by omega)), a2, obn_s, gin_r i16, c16, bnd_s, k2, obn_s]
/-- an outcome of the address stream is followed -/
theorem V_follow {bd N j : Nat} {z t : ST} (h : Rel bd N z t) (hj : j < N) (hk : (t.2 0 j) = 6 ∨ (t.2 0 j) = 7) : ∃ r z' t', B01 r ∧ x_Stream_followOutcome_31_17 z (nI j) = some (r, z') ∧ (if t.2 10 2 = 0 then some (0, t) else obn (m_take t 2) (fun r8 z8 => if r8 = 1 then m_moveValue_73 z8 (nI j) 1 (z8.2 3 j) else m_moveValue_73 z8 (nI j) 1 (nI j + 1))) = some (r, t') ∧ Rel bd N z' t' := by
  obtain ⟨hN, -, -, ok, e0, e1, e2, e3, -⟩ := R_at h hj
  obtain ⟨f, n, hf, hn, g1, g2, g3, g4⟩ := Rq_n2 h
  obtain ⟨hb, hc⟩ := okI_br ok hk
  by_cases hn0 : n = 0
  · subst hn0
    refine ⟨0, z, t, Or.inl rfl, ?_, ?_, h⟩
    · simp only [x_Stream_followOutcome_31_17, g2, nI_0, if_true, gib_0]
    · rw [g3, nI_0, if_pos rfl]
  · obtain ⟨v, z1, t1, a1, a2, a3, a4, a5, a6, a7, a8, a9, a10, a11, a12, a13, a14, a15⟩ := Rq_take2 (n := n) h (by omega) hn g2
    have zc : z1.2 3 j = t.2 3 j := by rw [a6.1 3 (by decide), e3]
    have tc : t1.2 3 j = t.2 3 j := by rw [a6.2.2.2.1 3 (by decide)]
    obtain ⟨na, hna, hne⟩ := nxt (o := v) (c := t.2 3 j) (j := j) (by omega) hc
    obtain ⟨z2, t2, k1, k2, k3, k4⟩ := L_leave1 (a := na) a5 hne hna
    refine ⟨1, z2, t2, Or.inr rfl, ?_, ?_, k3⟩
    · have s24 : ∀ y3, y3 = v → x_Stream_followOutcome_31_17_24 z1 (nI j) (nI j) y3 = some (1, z2) := by
        intro y3 hy
        subst hy
        simp only [x_Stream_followOutcome_31_17_24, x_behind31 (z := z1) (j := j) (show j < 24 by omega), zc, obn_s, k1, gib_1]
      simp only [x_Stream_followOutcome_31_17, g2, if_neg (nI_ne0 (show 0 < n by omega) (by omega)), a1, obn_s]
      rcases a3 with q | q
      · rw [if_pos q]; exact s24 0 q.symm
      · rw [if_neg (by rw [q]; decide)]; exact s24 1 q.symm
    · rw [g3, if_neg (nI_ne0 (show 0 < n by omega) (by omega)), a2, obn_s, tc]
      rcases a3 with q | q
      · rw [if_pos q] at k2
        rw [if_neg (by rw [q]; decide), m_moveValue_73, k2, obn_s, gib_1]
      · rw [if_neg (by rw [q]; decide)] at k2
        rw [if_pos q, m_moveValue_73, k2, obn_s, gib_1]
