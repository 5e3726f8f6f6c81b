/-- add -/
theorem callAdd {bd N : Nat} {z t : ST} (h : Rel bd N z t) (k a b c : Int32) : ∃ r z' t' N', x_add z k a b c = some (r, z') ∧ m_add t k a b c = some (r, t') ∧ Rel bd N' z' t' := by
  obtain ⟨sl, fl⟩ := R_SL h
  obtain ⟨⟨hN, e1, e2, e3⟩, -⟩ := sl
  by_cases full : N = 24
  · subst full
    have le1 : (24 : Int32) ≤ z.1 1 := by rw [e1]; decide
    have le2 : (24 : Int32) ≤ t.1 0 := by rw [e2]; decide
    refine ⟨-1, z, t, 24, ?_, ?_, h⟩
    · simp only [x_add, if_pos le1]
    · simp only [m_add, if_pos le2, m_add_30, m_add_31, m_add_59, m_add_60, m_add_113, m_add_114, if_true]
  · have lt : N < 24 := by omega
    have nle : ¬ (24 : Int32) ≤ z.1 1 := by rw [e1]; exact nI_ge (b := 24) lt (by omega)
    rcases add_s (z := z) k a b c lt e2 with ⟨s1, s2⟩ | ⟨ok, s1, s2⟩
    · refine ⟨-1, z, t, N, ?_, s2, h⟩
      simp only [x_add, if_neg nle, s1, obn_s, if_true]
    · have gN : ∀ x : OR, gin (nI N) 24 x = x := fun x => gin_n lt (by decide : 24 < 2 ^ 31)
      have cN : (nI N).toNatClampNeg = N := cl_n (show N < 2 ^ 31 by omega)
      have n10 : ¬ (1 : Int32) = 0 := by decide
      have rp : RP (N + 1) (nI N + 1) (upd (z.2 0) N k) (upd (z.2 1) N a) (upd (z.2 2) N b) (upd (z.2 3) N c) (nI N + 1) (upd (t.2 0) N k) (upd (t.2 1) N a) (upd (t.2 2) N b) (upd (t.2 3) N c) := by
        refine ⟨by omega, nI_1 N, nI_1 N, fun j hj => ?_⟩
        by_cases q : j = N
        · simp only [upd, if_pos q]
          exact ⟨trivial, trivial, trivial, trivial, ok⟩
        · simp only [upd, if_neg q]
          exact e3 j (by omega)
      obtain ⟨z1, t1, u1, u2, u3, u4, u5, u6⟩ := slices (z := stI (stA (stA (stA (stA z 0 (upd (z.2 0) N k)) 1 (upd (z.2 1) N a)) 2 (upd (z.2 2) N b)) 3 (upd (z.2 3) N c)) 1 (nI N + 1)) (t := stI (stA (stA (stA (stA t 0 (upd (t.2 0) N k)) 1 (upd (t.2 1) N a)) 2 (upd (t.2 2) N b)) 3 (upd (t.2 3) N c)) 0 (nI N + 1)) rp
      have fl1 : FL z1 t1 := by
        intro j hj
        rw [u5 10 (by omega), u6.1]
        exact fl j hj
      obtain ⟨z', t', h1, h2, h3, h4⟩ := begin_join u3 fl1
      refine ⟨nI N, z', t', N + 1, ?_, ?_, R_monoN h3 (by omega)⟩
      · have xa : x_Program_append_1 z k a b c = some (nI N, z1) := by
          simp only [x_Program_append_1, e1, gN, cN, bnd_s]
          have f0 : (stA (stA (stA (stA z 0 (upd (z.2 0) N k)) 1 (upd (z.2 1) N a)) 2 (upd (z.2 2) N b)) 3 (upd (z.2 3) N c)).1 1 = nI N := e1
          have f1 : (stA z 0 (upd (z.2 0) N k)).2 1 = z.2 1 := rfl
          have f2 : (stA (stA z 0 (upd (z.2 0) N k)) 1 (upd (z.2 1) N a)).2 2 = z.2 2 := rfl
          have f3 : (stA (stA (stA z 0 (upd (z.2 0) N k)) 1 (upd (z.2 1) N a)) 2 (upd (z.2 2) N b)).2 3 = z.2 3 := rfl
          rw [f1, f2, f3, f0, u1, obn_s]
        simp only [x_add, if_neg nle, s1, obn_s, if_neg n10, xa, h1]
      · rw [s2]
        have f0 : (stA (stA (stA (stA t 0 (upd (t.2 0) N k)) 1 (upd (t.2 1) N a)) 2 (upd (t.2 2) N b)) 3 (upd (t.2 3) N c)).1 0 = nI N := e2
        have a1 : (stA t 0 (upd (t.2 0) N k)).1 0 = nI N := e2
        have a2 : (stA (stA t 0 (upd (t.2 0) N k)) 1 (upd (t.2 1) N a)).1 0 = nI N := e2
        have a3 : (stA (stA (stA t 0 (upd (t.2 0) N k)) 1 (upd (t.2 1) N a)) 2 (upd (t.2 2) N b)).1 0 = nI N := e2
        have f1 : (stA t 0 (upd (t.2 0) N k)).2 1 = t.2 1 := rfl
        have f2 : (stA (stA t 0 (upd (t.2 0) N k)) 1 (upd (t.2 1) N a)).2 2 = t.2 2 := rfl
        have f3 : (stA (stA (stA t 0 (upd (t.2 0) N k)) 1 (upd (t.2 1) N a)) 2 (upd (t.2 2) N b)).2 3 = t.2 3 := rfl
        have lst : t'.1 0 - 1 = nI N := by
          rw [h4, u6.1, s1_e, nI_1, nI_pred]
        simp only [m_add_114, if_neg n10, e2, gN, cN, bnd_s, a1, f1, a2, f2, a3, f3, f0, u2, obn_s, h2, lst]
