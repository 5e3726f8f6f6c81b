-- the plain run
theorem R_pl {bd N : Nat} {z t : ST} (h : Rel bd N z t) : (∀ i, i < 8 → z.2 23 i = t.2 14 i) ∧ (∀ i, i < 32 → z.2 24 i = t.2 15 i) ∧ RAt (z.1 21) (t.1 7) := by
  obtain ⟨hP, hM, hD, hT, hF, hme, q0, q1, q2, q3, q4, hS, hA, hV, ha, hb, la, lb, hs, hl, hW, pr, pm, pa, pw⟩ := h
  refine ⟨fun i hi => ?_, fun i hi => ?_, pa⟩
  · have := pr i hi
    rw [Nat.zero_add] at this
    exact this
  · have := pm i hi
    rw [Nat.zero_add] at this
    exact this
theorem P_at {bd N a : Nat} {z t : ST} {v : Int32} (h : Rel bd N z t) (h24 : a ≤ 24) (hv : v = nI a) : Rel bd N (stI z 21 v) (stI t 7 v) := by
  obtain ⟨hP, hM, hD, hT, hF, hme, q0, q1, q2, q3, q4, hS, hA, hV, ha, hb, la, lb, hs, hl, hW, pr, pm, pa, pw⟩ := h
  have pa' : RAt v v := ⟨a, h24, hv, hv⟩
  exact ⟨hP, hM, hD, hT, hF, hme, q0, q1, q2, q3, q4, hS, hA, hV, ha, hb, la, lb, hs, hl, hW, pr, pm, pa', pw⟩
theorem P_reg {bd N a : Nat} {z t : ST} {v : Int32} (h : Rel bd N z t) : Rel bd N (stA z 23 (upd (z.2 23) a v)) (stA t 14 (upd (t.2 14) a v)) := by
  obtain ⟨hP, hM, hD, hT, hF, hme, q0, q1, q2, q3, q4, hS, hA, hV, ha, hb, la, lb, hs, hl, hW, pr, pm, pa, pw⟩ := h
  have pr' : eqB 8 0 (upd (z.2 23) a v) (upd (t.2 14) a v) := by
    intro j hj
    have := pr j hj
    rw [Nat.zero_add] at this
    simp only [upd, Nat.zero_add, this]
  exact ⟨hP, hM, hD, hT, hF, hme, q0, q1, q2, q3, q4, hS, hA, hV, ha, hb, la, lb, hs, hl, hW, pr', pm, pa, pw⟩
theorem P_mem {bd N a : Nat} {z t : ST} {v : Int32} (h : Rel bd N z t) : Rel bd N (stA z 24 (upd (z.2 24) a v)) (stA t 15 (upd (t.2 15) a v)) := by
  obtain ⟨hP, hM, hD, hT, hF, hme, q0, q1, q2, q3, q4, hS, hA, hV, ha, hb, la, lb, hs, hl, hW, pr, pm, pa, pw⟩ := h
  have pm' : eqB 32 0 (upd (z.2 24) a v) (upd (t.2 15) a v) := by
    intro j hj
    have := pm j hj
    rw [Nat.zero_add] at this
    simp only [upd, Nat.zero_add, this]
  exact ⟨hP, hM, hD, hT, hF, hme, q0, q1, q2, q3, q4, hS, hA, hV, ha, hb, la, lb, hs, hl, hW, pr, pm', pa, pw⟩
/-- the plain run writes an output -/
theorem P_out {bd N : Nat} {z t : ST} {v : Int32} (h : Rel bd N z t) (hbd : bd < 1000000) : ∃ z' t1, x_Written_write_38 z v = some (0, z') ∧ m_write t 64 (t.1 9) v = some (0, t1) ∧ t1.1 9 = t.1 9 ∧ Rel (bd + 1) N z' (stI t1 9 (t.1 9 + 1)) := by
  obtain ⟨hP, hM, hD, hT, hF, hme, q0, q1, q2, q3, q4, hS, hA, hV, ha, hb, la, lb, hs, hl, hW, pr, pm, pa, pw⟩ := h
  have hW' := RW_mono hW
  obtain ⟨c, h1, h2, h3, h4⟩ := pw
  by_cases e : 64 ≤ c
  · refine ⟨stI z 22 (z.1 22 + 1), t, ?_, ?_, rfl, ?_⟩
    · simp only [x_Written_write_38, x_Written_write_38_19, h2, bnd_s]
      rw [if_pos (show (64 : Int32) ≤ nI c from nI_le (a := 64) e (by omega))]
    · simp only [m_write, h3]
      rw [if_pos (show (64 : Int32) ≤ nI c from nI_le (a := 64) e (by omega))]
    · have pw' : RW (bd + 1) 64 (z.1 22 + 1) (t.1 9 + 1) (z.2 25) (t.2 16) := by
        rw [h2, h3, nI_1]
        exact ⟨c + 1, by omega, rfl, rfl, fun j hj hj2 => h4 j (by omega) hj2⟩
      exact ⟨hP, hM, hD, hT, hF, hme, q0, q1, q2, q3, q4, hS, hA, hV, ha, hb, la, lb, hs, hl, hW', pr, pm, pa, pw'⟩
  · refine ⟨stI (stA z 25 (upd (z.2 25) c v)) 22 (z.1 22 + 1), stA t 16 (upd (t.2 16) (64 + c) v), ?_, ?_, rfl, ?_⟩
    · simp only [x_Written_write_38, x_Written_write_38_19, h2, bnd_s, gin_n (show c < 64 by omega) (by decide : 64 < 2 ^ 31), cl_n (show c < 2 ^ 31 by omega)]
      rw [if_neg (show ¬ (64 : Int32) ≤ nI c from nI_ge (b := 64) (by omega) (by omega))]
      rw [show (stA z 25 (upd (z.2 25) c v)).1 22 = z.1 22 from rfl, h2]
    · simp only [m_write, h3]
      rw [if_neg (show ¬ (64 : Int32) ≤ nI c from nI_ge (b := 64) (by omega) (by omega)), show (64 : Int32) + nI c = nI (64 + c) from nI_add 64 c]
      simp only [gin_n (show 64 + c < 128 by omega) (by decide : 128 < 2 ^ 31), cl_n (show 64 + c < 2 ^ 31 by omega), bnd_s]
    · have pw' : RW (bd + 1) 64 (z.1 22 + 1) (t.1 9 + 1) (upd (z.2 25) c v) (upd (t.2 16) (64 + c) v) := by
        rw [h2, h3, nI_1]
        refine ⟨c + 1, by omega, rfl, rfl, fun j hj hj2 => ?_⟩
        by_cases q : j = c
        · subst q
          simp only [upd, if_true]
        · simp only [upd, if_neg q, if_neg (show ¬ 64 + j = 64 + c by omega)]
          exact h4 j (by omega) hj2
      have hW2 : RW (bd + 1) 0 (z.1 20) (t.1 8) (z.2 22) (upd (t.2 16) (64 + c) v) := by
        obtain ⟨d, g1, g2, g3, g4⟩ := hW'
        refine ⟨d, g1, g2, g3, fun j hj hj2 => ?_⟩
        simp only [upd, if_neg (show ¬ 0 + j = 64 + c by omega)]
        exact g4 j hj hj2
      exact ⟨hP, hM, hD, hT, hF, hme, q0, q1, q2, q3, q4, hS, hA, hV, ha, hb, la, lb, hs, hl, hW2, pr, pm, pa, pw'⟩
theorem W_p {bd N j : Nat} {z t : ST} (h : Rel bd N z t) (hj : j < N) (hb : R8 (t.2 2 j)) : ∃ w : Nat, w < 32 ∧ x_Run_wordAddress_35 z (nI j) = some (nI w, z) ∧ ((t.2 14 (t.2 2 j).toNatClampNeg) + (t.2 3 j)) &&& 31 = nI w := by
  obtain ⟨hN, -, -, -, -, -, e2, e3, -⟩ := R_at h hj
  obtain ⟨hA, -⟩ := R_pl h
  obtain ⟨i, hi, hie, hic, hir, -⟩ := R8_cl hb
  obtain ⟨w, hw, he⟩ := pk_andE ((t.2 14 (t.2 2 j).toNatClampNeg) + (t.2 3 j)) (m := 31) 5 (by decide)
  refine ⟨w, hw, ?_, he⟩
  simp only [x_Run_wordAddress_35, gin_n (show j < 24 by omega) (by decide : 24 < 2 ^ 31), cl_n (show j < 2 ^ 31 by omega), e2, e3, gin_r hir]
  rw [hic, hA i hi, ← hic, he]
/-- an instruction of the plain run that is no branch -/
theorem P_perf {bd N j : Nat} {z t : ST} (h : Rel bd N z (stI t 7 (nI j + 1))) (hbd : bd < 1000000) (hj : j < N) (ht : t.1 7 = nI j) (n6 : ¬ t.2 0 j = 6) (n7 : ¬ t.2 0 j = 7) : ∃ z' t', x_PlainRun_perform_35 z (nI j) = some (0, z') ∧ m_plainStep t = some (0, t') ∧ Rel (bd + 1) N z' t' := by
  obtain ⟨hN, -, -, ok, e0, e1, e2, e3, -⟩ := R_at h hj
  obtain ⟨hrg, hmm, -⟩ := R_pl h
  have wp := W_p h hj
  simp only [s1_2] at ok e0 e1 e2 e3 hrg hmm wp
  have h24 : j < 24 := by omega
  have gj : ∀ x : OR, gin (nI j) 24 x = x := fun x => gin_n h24 (by decide : 24 < 2 ^ 31)
  have cj : (nI j).toNatClampNeg = j := cl_n (show j < 2 ^ 31 by omega)
  obtain ⟨ia, hia, hae, hac, hair, -⟩ := R8_cl ok.1
  by_cases k4 : t.2 0 j = 4
  · have bb : R8 (t.2 2 j) := by
      rcases ok.2 with q | q | q | q | q
      · rw [k4] at q; exact absurd q (by decide)
      · rw [k4] at q; exact absurd q (by decide)
      · exact q.2.1
      · exact q.2
      · exact q.2.1
    obtain ⟨w, hw, w1, w2⟩ := wp bb
    obtain ⟨ib, hib, hbe, hbc, hbr, -⟩ := R8_cl bb
    have gw : ∀ x : OR, gin (nI w) 32 x = x := fun x => gin_n hw (by decide : 32 < 2 ^ 31)
    have cw : (nI w).toNatClampNeg = w := cl_n (show w < 2 ^ 31 by omega)
    refine ⟨_, _, ?_, ?_, R_mono (P_reg (a := ia) (v := t.2 15 w) h)⟩
    · simp only [x_PlainRun_perform_35, gj, cj, e0, if_pos k4, w1, obn_s, gw, cw, e1, gin_r hair, hac, bnd_s, hmm w hw]
    · have d1 : ¬ (4 : Int32) = 0 := by decide
      have d2 : ¬ (4 : Int32) = 6 := by decide
      have d3 : ¬ (4 : Int32) = 7 := by decide
      have d4 : ¬ (4 : Int32) = 8 := by decide
      have d5 : ¬ (4 : Int32) ≤ 0 := by decide
      have d6 : (4 : Int32) ≤ 4 := by decide
      simp only [m_plainStep, m_plainStep_63, m_reckons_s, ht, gj, cj, k4, if_neg d1, if_neg d2, if_neg d3, if_neg d4, if_neg d5, if_pos d6, if_true, gin_r hbr, obn_s, bnd_s, s1_2, w2, gw, cw, gin_r hair, hac]
  · by_cases k5 : t.2 0 j = 5
    · have bb : R8 (t.2 2 j) := by
        rcases ok.2 with q | q | q | q | q
        · rw [k5] at q; exact absurd q (by decide)
        · rw [k5] at q; exact absurd q (by decide)
        · exact q.2.1
        · exact q.2
        · exact q.2.1
      obtain ⟨w, hw, w1, w2⟩ := wp bb
      obtain ⟨ib, hib, hbe, hbc, hbr, -⟩ := R8_cl bb
      have gw : ∀ x : OR, gin (nI w) 32 x = x := fun x => gin_n hw (by decide : 32 < 2 ^ 31)
      have cw : (nI w).toNatClampNeg = w := cl_n (show w < 2 ^ 31 by omega)
      refine ⟨_, _, ?_, ?_, R_mono (P_mem (a := w) (v := t.2 14 ia) h)⟩
      · simp only [x_PlainRun_perform_35, gj, cj, e0, if_neg k4, if_pos k5, w1, obn_s, gw, cw, e1, gin_r hair, hac, bnd_s, hrg ia hia]
      · have d1 : ¬ (5 : Int32) = 0 := by decide
        have d2 : ¬ (5 : Int32) = 6 := by decide
        have d3 : ¬ (5 : Int32) = 7 := by decide
        have d4 : ¬ (5 : Int32) = 8 := by decide
        have d5 : ¬ (5 : Int32) ≤ 0 := by decide
        have d6 : (4 : Int32) ≤ 5 := by decide
        have d7 : ¬ (5 : Int32) = 4 := by decide
        simp only [m_plainStep, m_plainStep_63, m_reckons_s, ht, gj, cj, k5, if_neg d1, if_neg d2, if_neg d3, if_neg d4, if_neg d5, if_pos d6, if_neg d7, if_true, gin_r hbr, obn_s, bnd_s, s1_2, w2, gw, cw, gin_r hair, hac]
    · by_cases k8 : t.2 0 j = 8
      · obtain ⟨z', t1, o1, o2, o3, o4⟩ := P_out (v := t.2 14 ia) h hbd
        refine ⟨z', _, ?_, ?_, o4⟩
        · simp only [x_PlainRun_perform_35, gj, cj, e0, if_neg k4, if_neg k5, if_neg n6, if_neg n7, if_pos k8, e1, gin_r hair, hac, hrg ia hia, o1, obn_s]
        · have d1 : ¬ (8 : Int32) = 0 := by decide
          have d2 : ¬ (8 : Int32) = 6 := by decide
          have d3 : ¬ (8 : Int32) = 7 := by decide
          have d5 : ¬ (8 : Int32) ≤ 0 := by decide
          have d6 : (4 : Int32) ≤ 8 := by decide
          have d7 : ¬ (8 : Int32) = 4 := by decide
          have d8 : ¬ (8 : Int32) = 5 := by decide
          simp only [m_plainStep, m_plainStep_38, m_plainStep_63, m_reckons_s, ht, gj, cj, k8, if_neg d1, if_neg d2, if_neg d3, if_neg d5, if_pos d6, if_neg d7, if_neg d8, if_true, obn_s, bnd_s, s1_2, gin_r hair, hac, o2, o3]
      · have sa := okI_sa ok k4 k5 n6 n7 k8
        have xc := x_comp35 (z := z) (j := j) h24 (by rw [e1]; exact ok.1) (by rw [e0, e2, e3]; exact sa)
        rw [e0, e1, e2, e3, hac] at xc
        have xp : x_PlainRun_perform_35 z (nI j) = some (0, stA z 23 (upd (z.2 23) ia (fOp (t.2 0 j) (z.2 23 (t.2 2 j).toNatClampNeg) (z.2 23 (t.2 3 j).toNatClampNeg) (t.2 3 j)))) := by
          simp only [x_PlainRun_perform_35, gj, cj, e0, if_neg k4, if_neg k5, if_neg n6, if_neg n7, if_neg k8, xc, obn_s]
        refine ⟨_, _, xp, ?_, R_mono (P_reg h)⟩
        rcases sa with s | ⟨s, bb, cc⟩
        · simp only [m_plainStep, m_plainStep_63, ht, gj, cj, s, if_true, bnd_s, s1_2, gin_r hair, hac, fOp]
        · obtain ⟨ib, hib, hbe, hbc, hbr, -⟩ := R8_cl bb
          obtain ⟨ic, hic, hce, hcc, hcr, -⟩ := R8_cl cc
          have nz : ¬ (t.2 0 j) = 0 := by rcases s with s | s | s <;> (rw [s]; decide)
          have n0 : ¬ (t.2 0 j) ≤ 0 := by rcases s with s | s | s <;> (rw [s]; decide)
          have n4 : ¬ (4 : Int32) ≤ (t.2 0 j) := by rcases s with s | s | s <;> (rw [s]; decide)
          have n10 : ¬ (1 : Int32) = 0 := by decide
          rw [hbc, hcc, hrg ib hib, hrg ic hic]
          simp only [m_plainStep, m_plainStep_63, m_reckons_s, ht, gj, cj, if_neg nz, if_neg n6, if_neg n7, if_neg k8, if_neg n0, if_neg n4, if_neg n10, obn_s, bnd_s, s1_2, gin_r hbr, gin_r hcr, hbc, hcc, m_reckon_s (c := t.2 3 j) _ s, gin_r hair, hac]
