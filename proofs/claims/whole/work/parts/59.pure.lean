theorem R_weak {bd N : Nat} {z t : ST} {v : Int32} (h : Rel bd N z t) : RelG (false, true) bd N z (stI t 3 v) := by
  obtain ⟨hP, hM, hD, hT, hF, hme, q0, q1, q2, q3, q4, hS, hA, hV, ha, hb, la, lb, hs, hl, hW, pr, pm, pa, pw⟩ := h
  have hs : false = true → z.1 17 = v ∧ B01 v := fun h => by cases h
  exact ⟨hP, hM, hD, hT, hF, hme, q0, q1, q2, q3, q4, hS, hA, hV, ha, hb, la, lb, hs, hl, hW, pr, pm, pa, pw⟩
theorem R_strong {bd N : Nat} {z t : ST} {v : Int32} (h : RelG (false, true) bd N z t) (ht : t.1 3 = v) (hv : B01 v) : Rel bd N (stI z 17 v) t := by
  obtain ⟨hP, hM, hD, hT, hF, hme, q0, q1, q2, q3, q4, hS, hA, hV, ha, hb, la, lb, hs, hl, hW, pr, pm, pa, pw⟩ := h
  have hs : true = true → v = t.1 3 ∧ B01 (t.1 3) := fun _ => by rw [ht]; exact ⟨rfl, hv⟩
  exact ⟨hP, hM, hD, hT, hF, hme, q0, q1, q2, q3, q4, hS, hA, hV, ha, hb, la, lb, hs, hl, hW, pr, pm, pa, pw⟩
/-- whether the next part is to take an outcome -/
theorem AO_s {N j : Nat} {z : ST} (hN : N ≤ 24) (h1 : z.1 1 = nI N) (hz : z.1 15 = nI j) (hj : j < N) : x_AddressStream_isAtOutcome_29 z = some (if z.2 4 j = 1 then (if fBr (z.2 0 j) = 0 then 0 else if z.1 17 = 0 then (if z.2 7 j = 0 then 1 else 0) else 1) else 0, z) := by
  have he : x_Run_hasEnded_29 z = some (0, z) := by
    simp only [x_Run_hasEnded_29, hz, h1, gib_0]
    rw [if_pos (nI_lt hj (by omega))]
  simp only [x_AddressStream_isAtOutcome_29, he, obn_s, if_true, hz, gin_n (show j < 24 by omega) (by decide : 24 < 2 ^ 31), cl_n (show j < 2 ^ 31 by omega), x_isBranch_s (show j < 24 by omega), gib_0, gib_1]
  (repeat' split) <;> rfl
/-- an outcome is followed, or waited for -/
theorem A_follow {bd N j : Nat} {z t : ST} (h : Rel bd N z t) (hj : j < N) (hz : z.1 15 = nI j) (hk : (t.2 0 j) = 6 ∨ (t.2 0 j) = 7) (y2 : Int32) : ∃ r z' t', B01 r ∧ obn (x_Stream_followOutcome_29_18 z (nI j)) (fun r9 z9 => if (z9.1 17) = 0 then (x_AddressStream_serve_29_55 z9 (nI j) r9) else (if r9 = 0 then (x_AddressStream_serve_29_56 z9 (nI j) r9 1) else (x_AddressStream_serve_29_55 z9 (nI j) r9))) = some (r, z') ∧ m_follow_41 t (nI j) y2 = some (r, t') ∧ Rel bd N z' t' ∧ (r = 1 → t'.1 5 = t.1 5) ∧ (r = 0 → t'.1 5 = 1 ∧ z'.1 17 = z.1 17 ∧ z'.1 15 = z.1 15 ∧ z'.1 1 = z.1 1 ∧ z'.2 = z.2) := by
  obtain ⟨hN, -, -, ok, e0, e1, e2, e3, -⟩ := R_at h hj
  obtain ⟨f, n, hf, hn, g1, g2, g3, g4⟩ := Rq_n3 h
  obtain ⟨s1, s2⟩ := (R_mb h).2.2.2.2.2
  obtain ⟨hb, hc⟩ := okI_br ok hk
  by_cases hn0 : n = 0
  · subst hn0
    refine ⟨0, stI z 17 (z.1 17), stI t 5 1, Or.inl rfl, ?_, ?_, ?_, fun h => absurd h (by decide), fun _ => ⟨s1_e, s1_e, rfl, rfl, rfl⟩⟩
    · simp (decide := true) only [x_Stream_followOutcome_29_18, g2, nI_0, if_true, gib_0, obn_s]
      rcases s2 with q | q
      · rw [s1, q]
        simp (decide := true) only [if_true, x_AddressStream_serve_29_55, x_AddressStream_serve_29_56, gib_0, bnd_s]
      · rw [s1, q]
        simp (decide := true) only [if_true, if_false, x_AddressStream_serve_29_56, gib_0, gib_1, bnd_s]
    · simp (decide := true) only [m_follow_41, gin_r (show inR (3 : Int32) 5 = true by decide), show (3 : Int32).toNatClampNeg = 3 by decide, g3, nI_0, if_true, gib_1, gib_0, bnd_s]
    · have r := R_5 (v := 1) h
      have r2 := R_weak (v := t.1 3) r
      have r3 := R_strong (v := z.1 17) r2 (by rw [s1_e, s1]) (by rw [s1]; exact s2)
      have e : stI (stI t 5 1) 3 (t.1 3) = stI t 5 1 := by
        simp only [stI]
        congr 1
        funext q
        simp only [upd]
        by_cases e3 : q = 3
        · subst e3; simp
        · rw [if_neg e3]
      rw [e] at r3
      exact r3
  · obtain ⟨v, z1, t1, a1, a2, a3, a4, a5, a6, a7, a8, a9, a10, a11, a12, a13, a14, a15⟩ := Rq_take3 (n := n) (R_weak (v := 0) h) (by omega) hn g2
    have zc : z1.2 3 j = t.2 3 j := by rw [a6.1 3 (by decide), e3]
    have tc : t1.2 3 j = t.2 3 j := by rw [a6.2.2.2.1 3 (by decide)]; rfl
    obtain ⟨na, hna, hne⟩ := nxt (o := v) (c := t.2 3 j) (j := j) (by omega) hc
    obtain ⟨z2, t2, k1, k2, k3, k4⟩ := L_leave0 (a := na) a5 hne hna
    have t23 : t2.1 3 = 0 := by rw [k4.2.2.1, a14]; exact s1_e
    refine ⟨1, stI z2 17 0, t2, Or.inr rfl, ?_, ?_, R_strong k3 t23 (Or.inl rfl), fun _ => by rw [k4.2.2.1, a14]; rfl, fun h => absurd h (by decide)⟩
    · have s24 : ∀ y3, y3 = v → x_Stream_followOutcome_29_18_24 z1 (nI j) (nI j) y3 = some (1, z2) := by
        intro y3 hy
        subst hy
        simp only [x_Stream_followOutcome_29_18_24, x_behind29 (z := z1) (j := j) (show j < 24 by omega), zc, obn_s, k1, gib_1]
      have fo : x_Stream_followOutcome_29_18 z (nI j) = some (1, z2) := by
        simp only [x_Stream_followOutcome_29_18, g2, if_neg (nI_ne0 (show 0 < n by omega) (by omega)), a1, obn_s]
        rcases a3 with q | q
        · rw [if_pos q]; exact s24 0 q.symm
        · rw [if_neg (by rw [q]; decide)]; exact s24 1 q.symm
      rw [fo, obn_s]
      simp (decide := true) only [if_false, x_AddressStream_serve_29_55, x_AddressStream_serve_29_56, gib_0, gib_1, bnd_s]
      split <;> rfl
    · simp only [m_follow_41, gin_r (show inR (3 : Int32) 5 = true by decide), show (3 : Int32).toNatClampNeg = 3 by decide, g3, if_neg (nI_ne0 (show 0 < n by omega) (by omega)), gib_0, bnd_s, a2, obn_s, gin_n (show j < 24 by omega) (by decide : 24 < 2 ^ 31), cl_n (show j < 2 ^ 31 by omega), tc, m_follow_85]
      rcases a3 with q | q
      · rw [if_pos q] at k2
        rw [if_neg (by rw [q]; decide), k2]
        rfl
      · rw [if_neg (by rw [q]; decide)] at k2
        rw [if_pos q, k2]
        rfl
theorem fHm_n {d : Nat → Int32} {r1 r2 : Int32} : ∃ c : Nat, c ≤ 2 ∧ fHm d r1 r2 = nI c := by
  rcases fHm_3 (d := d) (r1 := r1) (r2 := r2) with h | h | h
  · exact ⟨0, by omega, h⟩
  · exact ⟨1, by omega, h⟩
  · exact ⟨2, by omega, h⟩
theorem fBr_s {k a b c : Int32} (ho : okI k a b c) : (fBr k = 0 ∧ ¬ k = 6 ∧ ¬ k = 7) ∨ (fBr k = 1 ∧ (k = 6 ∨ k = 7)) := by
  simp only [fBr]
  by_cases h6 : k = 6
  · right; exact ⟨by rw [if_pos h6], Or.inl h6⟩
  · by_cases h7 : k = 7
    · right; exact ⟨by rw [if_neg h6, if_pos h7], Or.inr h7⟩
    · left; exact ⟨by rw [if_neg h6, if_neg h7], h6, h7⟩
