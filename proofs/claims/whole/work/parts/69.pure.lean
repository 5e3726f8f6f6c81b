theorem RW_mono {bd o : Nat} {x y : Int32} {f g : Nat → Int32} (h : RW bd o x y f g) : RW (bd + 1) o x y f g := by
  obtain ⟨c, h1, h2, h3, h4⟩ := h
  exact ⟨c, by omega, h2, h3, h4⟩
theorem R_mono {bd N : Nat} {z t : ST} (h : Rel bd N z t) : Rel (bd + 1) N z t := by
  obtain ⟨hP, hM, hD, hT, hF, hme, q0, q1, q2, q3, q4, hS, hA, hV, ha, hb, la, lb, hs, hl, hW, pr, pm, pa, pw⟩ := h
  exact ⟨hP, hM, hD, hT, hF, hme, q0, q1, q2, q3, q4, hS, hA, hV, ha, hb, la, lb, hs, hl, RW_mono hW, pr, pm, pa, RW_mono pw⟩
/-- the value stream writes an output -/
theorem R_out {bd N : Nat} {z t : ST} {v : Int32} (h : Rel bd N z t) (hbd : bd < 1000000) : ∃ z' t1, x_Written_write_33 z v = some (0, z') ∧ m_write t 0 (t.1 8) v = some (0, t1) ∧ t1.1 8 = t.1 8 ∧ Rel (bd + 1) N z' (stI t1 8 (t.1 8 + 1)) ∧ z'.1 18 = z.1 18 := by
  obtain ⟨hP, hM, hD, hT, hF, hme, q0, q1, q2, q3, q4, hS, hA, hV, ha, hb, la, lb, hs, hl, hW, pr, pm, pa, pw⟩ := h
  have pw' := RW_mono pw
  obtain ⟨c, h1, h2, h3, h4⟩ := hW
  by_cases e : 64 ≤ c
  · refine ⟨stI z 20 (z.1 20 + 1), t, ?_, ?_, rfl, ?_, rfl⟩
    · simp only [x_Written_write_33, x_Written_write_33_19, h2, bnd_s]
      rw [if_pos (show (64 : Int32) ≤ nI c from nI_le (a := 64) e (by omega))]
    · simp only [m_write, h3]
      rw [if_pos (show (64 : Int32) ≤ nI c from nI_le (a := 64) e (by omega))]
    · have hW' : RW (bd + 1) 0 (z.1 20 + 1) (t.1 8 + 1) (z.2 22) (t.2 16) := by
        rw [h2, h3, nI_1]
        exact ⟨c + 1, by omega, rfl, rfl, fun j hj hj2 => h4 j (by omega) hj2⟩
      exact ⟨hP, hM, hD, hT, hF, hme, q0, q1, q2, q3, q4, hS, hA, hV, ha, hb, la, lb, hs, hl, hW', pr, pm, pa, pw'⟩
  · refine ⟨stI (stA z 22 (upd (z.2 22) c v)) 20 (z.1 20 + 1), stA t 16 (upd (t.2 16) c v), ?_, ?_, rfl, ?_, rfl⟩
    · simp only [x_Written_write_33, x_Written_write_33_19, h2, bnd_s, gin_n (show c < 64 by omega) (by decide : 64 < 2 ^ 31), cl_n (show c < 2 ^ 31 by omega)]
      rw [if_neg (show ¬ (64 : Int32) ≤ nI c from nI_ge (b := 64) (by omega) (by omega))]
      rw [show (stA z 22 (upd (z.2 22) c v)).1 20 = z.1 20 from rfl, h2]
    · simp only [m_write, h3]
      rw [if_neg (show ¬ (64 : Int32) ≤ nI c from nI_ge (b := 64) (by omega) (by omega)), show (0 : Int32) + nI c = nI c by rw [← nI_0, nI_add, Nat.zero_add]]
      simp only [gin_n (show c < 128 by omega) (by decide : 128 < 2 ^ 31), cl_n (show c < 2 ^ 31 by omega), bnd_s]
    · have hW' : RW (bd + 1) 0 (z.1 20 + 1) (t.1 8 + 1) (upd (z.2 22) c v) (upd (t.2 16) c v) := by
        rw [h2, h3, nI_1]
        refine ⟨c + 1, by omega, rfl, rfl, fun j hj hj2 => ?_⟩
        by_cases q : j = c
        · subst q
          simp only [upd, Nat.zero_add, if_true]
        · simp only [upd, Nat.zero_add, if_neg q]
          have := h4 j (by omega) hj2
          rw [Nat.zero_add] at this
          exact this
      have pw2 : RW (bd + 1) 64 (z.1 22) (t.1 9) (z.2 25) (upd (t.2 16) c v) := by
        obtain ⟨d, g1, g2, g3, g4⟩ := pw'
        refine ⟨d, g1, g2, g3, fun j hj hj2 => ?_⟩
        simp only [upd, if_neg (show ¬ 64 + j = c by omega)]
        exact g4 j hj hj2
      exact ⟨hP, hM, hD, hT, hF, hme, q0, q1, q2, q3, q4, hS, hA, hV, ha, hb, la, lb, hs, hl, hW', pr, pm, pa, pw2⟩
