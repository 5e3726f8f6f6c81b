/-- what the reference reads, before its takes -/
theorem mw_read {j n : Nat} {t : ST} {y2 y3 y4 y5 y6 y7 y8 : Int32} (hj : j < 24) (ok : okI (t.2 0 j) (t.2 1 j) (t.2 2 j) (t.2 3 j)) : m_work_f (n + 3) 1 t (nI j) y2 y3 y4 y5 y6 y7 y8 = m_work_f n 4 t (nI j) y2 y3 (fW t (fH0 (t.2 4) (fR1 (t.2 0 j) (t.2 1 j) (t.2 2 j)) (fR2 (t.2 0 j) (t.2 2 j) (t.2 3 j))) (fR1 (t.2 0 j) (t.2 1 j) (t.2 2 j))) (fW t (fH0 (t.2 4) (fR1 (t.2 0 j) (t.2 1 j) (t.2 2 j)) (fR2 (t.2 0 j) (t.2 2 j) (t.2 3 j))) (fR2 (t.2 0 j) (t.2 2 j) (t.2 3 j))) 0 0 0 := by
  obtain ⟨h1, h2⟩ := okI_r ok
  have r1 := m_reads0_s hj ok
  have r2 := m_reads1_s hj ok
  have s1 : ∀ a b c d e f g, m_work_f (n + 3) 1 t (nI j) a b c d e f g = m_work_f (n + 2) 2 t (nI j) a b (fW t (fH0 (t.2 4) (fR1 (t.2 0 j) (t.2 1 j) (t.2 2 j)) (fR2 (t.2 0 j) (t.2 2 j) (t.2 3 j))) (fR1 (t.2 0 j) (t.2 1 j) (t.2 2 j))) 0 0 0 0 := by
    intro a b c d e f g
    show m_work_g42 (m_work_f (n + 2)) t (nI j) a b c d e f g = _
    simp only [m_work_g42, r1, obn_s]
    rcases h1 with q | q
    · rw [if_neg (by rw [q]; decide), fW, if_neg (by rw [q]; decide)]
    · obtain ⟨i, hi, hie, -⟩ := R8_cl q
      have p0 : (0 : Int32) ≤ fR1 (t.2 0 j) (t.2 1 j) (t.2 2 j) := by
        rw [hie, ← nI_0]; exact nI_le (by omega) (by omega)
      rw [if_pos p0, fW, if_pos p0, m_valueOf_s hj ok r1 q, obn_s]
  have s2 : ∀ a b c d e f g, m_work_f (n + 2) 2 t (nI j) a b c d e f g = m_work_f (n + 1) 3 t (nI j) a b c (fW t (fH0 (t.2 4) (fR1 (t.2 0 j) (t.2 1 j) (t.2 2 j)) (fR2 (t.2 0 j) (t.2 2 j) (t.2 3 j))) (fR2 (t.2 0 j) (t.2 2 j) (t.2 3 j))) 0 0 0 := by
    intro a b c d e f g
    show m_work_g61 (m_work_f (n + 1)) t (nI j) a b c d e f g = _
    simp only [m_work_g61, r2, obn_s]
    rcases h2 with q | q
    · rw [if_neg (by rw [q]; decide), fW, if_neg (by rw [q]; decide)]
    · obtain ⟨i, hi, hie, -⟩ := R8_cl q
      have p0 : (0 : Int32) ≤ fR2 (t.2 0 j) (t.2 2 j) (t.2 3 j) := by
        rw [hie, ← nI_0]; exact nI_le (by omega) (by omega)
      rw [if_pos p0, fW, if_pos p0, m_valueOf_s hj ok r2 q, obn_s]
  rw [s1, s2]
  rfl
