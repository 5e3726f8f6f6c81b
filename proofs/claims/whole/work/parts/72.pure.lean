theorem recv_10 {z z' : ST} {r v : Int32} (h : x_ValueStream_receive_31 z r = some (v, z')) : z'.1 10 = z.1 10 := by
  simp only [x_ValueStream_receive_31, x_Fifo_take_19, x_Fifo_take_19_35, gin, bnd, obn] at h
  by_cases q : r = -1
  · rw [if_pos q] at h
    cases h
    rfl
  · rw [if_neg q] at h
    by_cases q1 : inR (z.1 11) 6 = true
    · rw [if_pos q1] at h
      by_cases q2 : inR r 8 = true
      · simp only [if_pos q2] at h
        by_cases q3 : 6 ≤ z.1 11 + 1
        · rw [if_pos q3] at h
          cases h
          rfl
        · rw [if_neg q3] at h
          cases h
          rfl
      · simp only [if_neg q2] at h
        by_cases q3 : 6 ≤ z.1 11 + 1
        · rw [if_pos q3] at h
          cases h
        · rw [if_neg q3] at h
          cases h
    · rw [if_neg q1] at h
      cases h
