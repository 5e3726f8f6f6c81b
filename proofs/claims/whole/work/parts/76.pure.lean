theorem P_at2 {bd N a : Nat} {z t : ST} {u v : Int32} (h : Rel bd N z t) (h24 : a ≤ 24) (hv : v = nI a) : Rel bd N (stI z 21 v) (stI (stI t 7 u) 7 v) := by
  obtain ⟨hP, hM, hD, hT, hF, hme, q0, q1, q2, q3, q4, hS, hA, hV, ha, hb, la, lb, hs, hl, hW, pr, pm, pa, pw⟩ := h
  have pa' : RAt v v := ⟨a, h24, hv, hv⟩
  exact ⟨hP, hM, hD, hT, hF, hme, q0, q1, q2, q3, q4, hS, hA, hV, ha, hb, la, lb, hs, hl, hW, pr, pm, pa', pw⟩
/-- a step of the plain run -/
theorem stepP {bd N : Nat} {z t : ST} (h : Rel bd N z t) (hbd : bd < 1000000) : (t.1 0 ≤ t.1 7 ∧ x_PlainRun_step_35 z = some (0, z)) ∨ (¬ t.1 0 ≤ t.1 7 ∧ ∃ z' t', x_PlainRun_step_35 z = some (1, z') ∧ m_plainStep t = some (0, t') ∧ Rel (bd + 1) N z' t') := by
  obtain ⟨hrg, hmm, ⟨j, ha24, hz, ht⟩⟩ := R_pl h
  have hs : N ≤ 24 ∧ z.1 1 = nI N ∧ t.1 0 = nI N := by
    obtain ⟨⟨p1, p2, p3, -⟩, -⟩ := h
    exact ⟨p1, p2, p3⟩
  obtain ⟨hN, hz1, ht0⟩ := hs
  by_cases hj : j < N
  · refine Or.inr ⟨by rw [ht, ht0]; exact nI_ge hj (by omega), ?_⟩
    obtain ⟨-, -, -, ok, e0, e1, e2, e3, -⟩ := R_at h hj
    have h24 : j < 24 := by omega
    have gj : ∀ x : OR, gin (nI j) 24 x = x := fun x => gin_n h24 (by decide : 24 < 2 ^ 31)
    have cj : (nI j).toNatClampNeg = j := cl_n (show j < 2 ^ 31 by omega)
    obtain ⟨ia, hia, hae, hac, hair, -⟩ := R8_cl ok.1
    have hend : x_Run_hasEnded_35 z = some (0, z) := by
      simp only [x_Run_hasEnded_35, hz, hz1, gib_0]
      rw [if_pos (nI_lt hj (by omega))]
    have g42 : ∀ v r z', x_PlainRun_perform_35 (stI z 21 v) (nI j) = some (r, z') → x_PlainRun_step_35_42 z (nI j) v = some (1, z') := by
      intro v r z' q
      simp only [x_PlainRun_step_35_42, bnd_s, q, obn_s, gib_1]
    rcases fBr_s ok with ⟨b0, n6, n7⟩ | ⟨b1, k67⟩
    · obtain ⟨z', t', c1, c2, c3⟩ := P_perf (P_at (a := j + 1) h (by omega) (nI_1 j)) hbd hj ht n6 n7
      refine ⟨z', t', ?_, c2, c3⟩
      simp only [x_PlainRun_step_35, hend, obn_s, if_true, hz, x_isBranch_s h24, e0, b0]
      exact g42 _ _ _ c1
    · obtain ⟨hbb, hcb⟩ := okI_br ok k67
      obtain ⟨ib, hib, hbe, hbc, hbr, -⟩ := R8_cl hbb
      have xt := x_test35 (z := z) (j := j) h24 (by rw [e1]; exact ok.1) (by rw [e2]; exact hbb)
      rw [e0, e1, e2, hac, hbc, hrg ia hia, hrg ib hib] at xt
      have pf : ∀ v, x_PlainRun_perform_35 (stI z 21 v) (nI j) = some (0, stI z 21 v) := by
        intro v
        have s0 : (stI z 21 v).2 0 j = t.2 0 j := e0
        have k4 : ¬ t.2 0 j = 4 := by rcases k67 with s | s <;> (rw [s]; decide)
        have k5 : ¬ t.2 0 j = 5 := by rcases k67 with s | s <;> (rw [s]; decide)
        simp only [x_PlainRun_perform_35, gj, cj, s0, if_neg k4, if_neg k5]
        rcases k67 with s | s
        · rw [if_pos s]
        · rw [if_neg (by rw [s]; decide), if_pos s]
      obtain ⟨na, hna, hne⟩ := nxt (o := fTst (t.2 0 j) (t.2 14 ia) (t.2 14 ib)) (c := t.2 3 j) (j := j) h24 hcb
      refine ⟨stI z 21 (if fTst (t.2 0 j) (t.2 14 ia) (t.2 14 ib) = 0 then nI j + 1 else t.2 3 j), stI (stI t 7 (nI j + 1)) 7 (if fTst (t.2 0 j) (t.2 14 ia) (t.2 14 ib) = 0 then nI j + 1 else t.2 3 j), ?_, ?_, R_mono ?_⟩
      · have n10 : ¬ (1 : Int32) = 0 := by decide
        simp only [x_PlainRun_step_35, hend, obn_s, if_true, hz, x_isBranch_s h24, e0, b1, if_neg n10, xt, x_behind35 h24, e3]
        exact g42 _ _ _ (pf _)
      · have k0 : ¬ t.2 0 j = 0 := by rcases k67 with s | s <;> (rw [s]; decide)
        have k4 : ¬ t.2 0 j = 4 := by rcases k67 with s | s <;> (rw [s]; decide)
        have k5 : ¬ t.2 0 j = 5 := by rcases k67 with s | s <;> (rw [s]; decide)
        have k8 : ¬ t.2 0 j = 8 := by rcases k67 with s | s <;> (rw [s]; decide)
        have n0 : ¬ (t.2 0 j) ≤ 0 := by rcases k67 with s | s <;> (rw [s]; decide)
        have n4 : (4 : Int32) ≤ (t.2 0 j) := by rcases k67 with s | s <;> (rw [s]; decide)
        have m38 : m_plainStep_38 t (nI j) (t.2 0 j) = some (0, stI (stI t 7 (nI j + 1)) 7 (if fTst (t.2 0 j) (t.2 14 ia) (t.2 14 ib) = 0 then nI j + 1 else t.2 3 j)) := by
          simp only [m_plainStep_38, m_plainStep_63, m_reckons_s, gj, cj, gin_r hair, hac, if_neg k0, if_neg k4, if_neg k5, if_neg k8, if_neg n0, if_pos n4, if_true, obn_s, bnd_s, s1_2, gin_r hbr, hbc, m_holds_s, m_plainStep_259]
          split
          · rfl
          · rfl
        simp only [m_plainStep, ht, gj, cj, if_neg k0]
        rcases k67 with s | s
        · rw [if_pos s]; exact m38
        · rw [if_neg (by rw [s]; decide), if_pos s]; exact m38
      · rw [hne]
        exact P_at2 h hna rfl
  · refine Or.inl ⟨by rw [ht, ht0]; exact nI_le (by omega) (by omega), ?_⟩
    have hend : x_Run_hasEnded_35 z = some (1, z) := by
      simp only [x_Run_hasEnded_35, hz, hz1, gib_1]
      rw [if_neg (nI_nlt (by omega) (by omega))]
    simp (decide := true) only [x_PlainRun_step_35, hend, obn_s, if_false, gib_0]
