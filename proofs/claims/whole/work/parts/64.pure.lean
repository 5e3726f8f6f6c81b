theorem R_nv {bd N j : Nat} {z t : ST} (h : Rel bd N z t) (hj : j < N) (ht : t.2 6 1 = nI j) : fN1 (t.2 0 j) (t.2 1 j) (t.2 2 j) (t.2 4) = 0 := by
  obtain ⟨hP, hM, hD, hT, hF, hme, q0, q1, q2, q3, q4, hS, hA, hV, ha, hb, la, lb, hs, hl, hW, pr, pm, pa, pw⟩ := h
  exact hb.2 rfl j hj ht
theorem m_give_go {n : Nat} {t : ST} {y1 y2 y3 : Int32} : m_give_f (n + 1) 1 t y1 y2 y3 = m_give_g17 (m_give_f n) t y1 y2 y3 := rfl
theorem m_give_g2 {n : Nat} {t : ST} {y1 y2 y3 : Int32} : m_give_f (n + 1) 2 t y1 y2 y3 = m_give_g41 (m_give_f n) t y1 y2 y3 := rfl
theorem m_give_g3 {n : Nat} {t : ST} {y1 y2 y3 : Int32} : m_give_f (n + 1) 3 t y1 y2 y3 = m_give_g60 (m_give_f n) t y1 y2 y3 := rfl
theorem m_give_g4 {n : Nat} {t : ST} {y1 y2 y3 : Int32} : m_give_f (n + 1) 4 t y1 y2 y3 = m_give_g95 (m_give_f n) t y1 y2 y3 := rfl
/-- the value stream gives a store its value -/
theorem V_give {bd N j : Nat} {z t : ST} (h : Rel bd N z t) (hj : j < N) (hb0 : fBel (t.2 0 j) (t.2 1 j) (t.2 2 j) (t.2 4) = 0) (hbr : fBr (t.2 0 j) = 0) (ht : t.2 6 1 = nI j) : ∃ r z' t', B01 r ∧ x_ValueStream_giveStored_31 z (nI j) = some (r, z') ∧ m_give t (nI j) = some (r, t') ∧ Rel bd N z' t' := by
  obtain ⟨hN, -, -, ok, e0, e1, e2, e3, -⟩ := R_at h hj
  obtain ⟨ia, hia, hae, hac, hair, -⟩ := R8_cl ok.1
  obtain ⟨i16, c16⟩ := R8_8 hia hae
  have d0 : t.2 4 ia = 0 := by
    have e := R_nv h hj ht
    simp only [fN1, hbr, hb0, if_true, hac] at e
    by_cases k5 : t.2 0 j = 5
    · rw [if_pos k5] at e
      by_cases q : t.2 4 ia = 0
      · exact q
      · rw [if_neg q] at e
        exact absurd e (by decide)
    · rw [if_neg k5] at e
      exact absurd e (by decide)
  have hv := (R_mb h).2.2.2.1 ia hia d0
  obtain ⟨f, n, hf, hn6, f1, f2, f3, f4, f5⟩ := Rs_n h
  obtain ⟨qf, m, hqf, hm, g1, g2, g3, g4⟩ := Rq_n1 h
  have m0 : m_give t (nI j) = m_give_f (3998 + 1) 1 t (nI j) (z.2 21 ia) 0 := by
    show m_give_g0 (m_give_f 3999) t (nI j) 0 0 = _
    simp only [m_give_g0, gin_n (show j < 24 by omega) (by decide : 24 < 2 ^ 31), cl_n (show j < 2 ^ 31 by omega), gin_r i16, c16, hv]
  rw [m0, m_give_go]
  by_cases hn0 : n = 0
  · subst hn0
    have xg : x_StoreList_give_25 z (z.2 21 ia) = some (0, z) := by
      simp only [x_StoreList_give_25, f2, nI_0, if_true, gib_0]
    have xroom := xq_room1 (z := z) (n := m) (m := 1) hm (by decide) g2
    have mroom := mq_room (t := t) (q := 1) (n := m) (m := 1) (x := 1) (by decide) (by decide) (by omega) (by decide) g3
    rw [show nI 1 = (1 : Int32) by decide] at xroom mroom
    rw [if_neg (show ¬ (1 : Nat) = 4 by decide)] at mroom
    have m1 : m_give_g17 (m_give_f 3998) t (nI j) (z.2 21 ia) 0 = obn (m_hasRoom t 1 1) (fun r1 z1 => if r1 = 0 then gib 0 (some (0, z1)) else m_give_f (3996 + 1) 3 z1 (nI j) (z.2 21 ia) 0) := by
      simp only [m_give_g17, f3, nI_0]
      rw [if_pos (by decide), show 3998 = 3997 + 1 from rfl, m_give_g2]
      simp only [m_give_g41, f3, nI_0, if_true]
    rw [m1, mroom, obn_s]
    by_cases e : m + 1 ≤ 4
    · obtain ⟨z1, t1, a1, a2, a3, a4, -⟩ := Rq_put1 (n := m) (v := z.2 21 ia) h (by omega) g2 trivial
      obtain ⟨z', t', k1, k2, k3, k4⟩ := V_leave (j := j) a3 (by omega)
      refine ⟨1, z', t', Or.inr rfl, ?_, ?_, k3⟩
      · simp (decide := true) only [x_ValueStream_giveStored_31, gin_n (show j < 24 by omega) (by decide : 24 < 2 ^ 31), cl_n (show j < 2 ^ 31 by omega), e1, gin_r hair, hac, xg, obn_s, if_true, xroom, if_pos e, if_false, a1, x_ValueStream_giveStored_31_56, k1, gib_1]
      · rw [if_pos e, if_neg (by decide), m_give_g3]
        simp only [m_give_g60, f3, nI_0]
        rw [if_pos (by decide), a2, obn_s, show 3996 = 3995 + 1 from rfl, m_give_g4]
        simp only [m_give_g95, k2, obn_s, gib_1]
    · refine ⟨0, z, t, Or.inl rfl, ?_, ?_, h⟩
      · simp (decide := true) only [x_ValueStream_giveStored_31, gin_n (show j < 24 by omega) (by decide : 24 < 2 ^ 31), cl_n (show j < 2 ^ 31 by omega), e1, gin_r hair, hac, xg, obn_s, if_true, xroom, if_neg e, gib_0]
      · rw [if_neg e, if_pos rfl, gib_0]
  · have s0 : t.2 13 0 = 0 := f5 (by omega)
    obtain ⟨z1, t1, a1, a2, a3, a4, a5⟩ := Rs_give (n := n) (v := z.2 21 ia) h f2 (by omega) hn6
    obtain ⟨z', t', k1, k2, k3, k4⟩ := V_leave (j := j) a3 (by omega)
    refine ⟨1, z', t', Or.inr rfl, ?_, ?_, k3⟩
    · simp (decide := true) only [x_ValueStream_giveStored_31, gin_n (show j < 24 by omega) (by decide : 24 < 2 ^ 31), cl_n (show j < 2 ^ 31 by omega), e1, gin_r hair, hac, a1, obn_s, if_false, x_ValueStream_giveStored_31_56, k1, gib_1]
    · have nle : ¬ nI n ≤ 0 := nI_nle (by omega) (by omega)
      have ne : ¬ (0 : Int32) = nI n := fun q => nI_ne0 (show 0 < n by omega) (by omega) q.symm
      have c0 : (0 : Int32).toNatClampNeg = 0 := by decide
      simp only [m_give_g17, f3, gin_r (show inR (0 : Int32) 6 = true by decide), c0, s0, if_neg nle, if_true]
      rw [show 3998 = 3997 + 1 from rfl, m_give_g2]
      simp only [m_give_g41, f3, if_neg ne]
      rw [show 3997 = 3996 + 1 from rfl, m_give_g3]
      simp only [m_give_g60, f3, if_neg nle, gin_r (show inR (0 : Int32) 6 = true by decide), c0, gib_1, bnd_s]
      rw [show (stA t 13 (upd (t.2 13) 0 1)).2 12 = t.2 12 from rfl, a2, obn_s, show 3996 = 3995 + 1 from rfl, m_give_g4]
      simp only [m_give_g95, k2, obn_s, gib_1]
