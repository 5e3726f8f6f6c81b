theorem gib_b {v : Int32} {x : OR} (h : B01 v) : gib v x = x := by
  rcases h with h | h <;> (rw [h]; rfl)
theorem fBel_5 {a b : Int32} {d : Nat → Int32} : fBel 5 a b d = 0 := by simp [fBel]
theorem fBel_8 {a b : Int32} {d : Nat → Int32} : fBel 8 a b d = 1 := by simp (decide := true) [fBel]
/-- what the value stream's instructions ask of the address stream -/
theorem A_serve {bd N j : Nat} {z t : ST} (h : Rel bd N z t) (hj : j < N) (hz : z.1 15 = nI j) (hb : fBel (t.2 0 j) (t.2 1 j) (t.2 2 j) (t.2 4) = 1) (h5 : t.1 5 = 0) : ∃ r z' t', B01 r ∧ x_AddressStream_serve_29 z (nI j) = some (r, z') ∧ mA2 t j = some (r, t') ∧ Rel bd N z' t' ∧ (r = 1 → t'.1 5 = 0) ∧ (r = 0 → x_AddressStream_isAtOutcome_29 z' = some (t'.1 5, z')) := by
  obtain ⟨hN, e1N, -, ok, e0, e1, e2, e3, e4, e5, e6, e7⟩ := R_at h hj
  have ao := AO_s hN e1N hz hj
  obtain ⟨s1, s2⟩ := (R_mb h).2.2.2.2.2
  rw [e4, e0, e7, fPc_Hm hb, hb, if_pos rfl] at ao
  have k5 : ¬ (t.2 0 j) = 5 := by
    intro e
    rw [e, fBel_5] at hb
    revert hb; decide
  unfold mA2
  by_cases k4 : (t.2 0 j) = 4
  · obtain ⟨r, z', t', b1, b2, b3, b4, b5, b6⟩ := A_load h hj k4
    rw [if_neg (by rw [hb]; decide)] at b2
    refine ⟨r, z', t', b1, ?_, ?_, b4, fun _ => by rw [b5, h5], fun hr => ?_⟩
    · simp only [x_AddressStream_serve_29, gin_n (show j < 24 by omega) (by decide : 24 < 2 ^ 31), cl_n (show j < 2 ^ 31 by omega), e0, if_pos k4, b2, obn_s, gib_b b1]
    · rw [if_pos k4, b3, obn_s, gib_b b1]
    · rw [b6 hr, ao, b5, h5, k4]
      rfl
  · rw [if_neg k4, if_neg k5, if_pos hb]
    obtain ⟨c, hc, hce⟩ := fHm_n (d := (t.2 4)) (r1 := (fR1 (t.2 0 j) (t.2 1 j) (t.2 2 j))) (r2 := (fR2 (t.2 0 j) (t.2 2 j) (t.2 3 j)))
    obtain ⟨f, n, hf, hn, g1, g2, g3, g4⟩ := Rq_n4 h
    have xroom := xq_room4 (z := z) (n := n) (m := c) hn hc g2
    have mroom := mq_room (t := t) (q := 4) (n := n) (m := c) (x := 4) (by decide) (by decide) (by omega) hc g3
    rw [if_pos rfl] at mroom
    rcases fBr_s ok with ⟨b0, n6, n7⟩ | ⟨b1, k67⟩
    · rw [b0, if_pos rfl] at ao
      rw [if_pos b0, hce, mroom, obn_s]
      have srv : x_AddressStream_serve_29 z (nI j) = if n + c ≤ 6 then obn (x_AddressStream_hand_29 z (z.2 5 j)) (fun _ z4 => obn (x_AddressStream_hand_29 z4 (z4.2 6 j)) (fun _ z5 => obn (x_Program_isBranch_1 z5 (nI j)) (fun r6 z6 => if r6 = 0 then (obn (x_Stream_leaveFor_29 z6 (nI j + 1)) (fun r7 z7 => gib r7 (some (r7, z7)))) else (gib 1 (bnd (stI z6 17 1) (fun z8 => gib 1 (some (1, z8)))))))) else some (0, z) := by
        simp only [x_AddressStream_serve_29, gin_n (show j < 24 by omega) (by decide : 24 < 2 ^ 31), cl_n (show j < 2 ^ 31 by omega), e0, if_neg k4, ao, obn_s, if_true, e7, fPc_Hm hb, hce, xroom, gib_0]
        by_cases e : n + c ≤ 6
        · simp (decide := true) only [if_pos e, if_false]
        · simp (decide := true) only [if_neg e, if_true]
      rw [srv]
      by_cases e : n + c ≤ 6
      · obtain ⟨z1, z2, t2, p1, p2, p3, p4, p5, p6, p7, p8, p9⟩ := A_hand h hj hb g2 hce hc e
        obtain ⟨z', t', k1, k2, k3, k4'⟩ := A_leave (j := j) p4 (by omega)
        refine ⟨1, z', t', Or.inr rfl, ?_, ?_, k3, fun _ => by rw [k4'.2.2.1, p9, h5], fun h => absurd h (by decide)⟩
        · rw [if_pos e, p1, obn_s, p2, obn_s, x_isBranch_s (by omega), p5.1 0 (by decide), e0, b0, obn_s, if_pos rfl, k1, obn_s, gib_1]
        · rw [if_pos e, if_neg (by decide), p3, obn_s, k2, obn_s]
      · refine ⟨0, z, t, Or.inl rfl, by rw [if_neg e], by rw [if_neg e, if_pos rfl], h, fun h => absurd h (by decide), fun _ => by rw [ao, h5]⟩
    · rw [b1, if_neg (by decide)] at ao
      rw [if_neg (by rw [b1]; decide)]
      have mf : m_follow t (nI j) = if fHm (t.2 4) (fR1 (t.2 0 j) (t.2 1 j) (t.2 2 j)) (fR2 (t.2 0 j) (t.2 2 j) (t.2 3 j)) ≤ 0 then m_follow_41 t (nI j) (fHm (t.2 4) (fR1 (t.2 0 j) (t.2 1 j) (t.2 2 j)) (fR2 (t.2 0 j) (t.2 2 j) (t.2 3 j))) else if t.1 3 = 0 then (if n + c ≤ 6 then obn (m_hand t (nI j)) (fun _ z7 => some (1, stI z7 3 1)) else some (0, t)) else m_follow_41 t (nI j) (fHm (t.2 4) (fR1 (t.2 0 j) (t.2 1 j) (t.2 2 j)) (fR2 (t.2 0 j) (t.2 2 j) (t.2 3 j))) := by
        simp only [m_follow, m_howMany_s (show j < 24 by omega) ok, obn_s]
        by_cases q0 : fHm (t.2 4) (fR1 (t.2 0 j) (t.2 1 j) (t.2 2 j)) (fR2 (t.2 0 j) (t.2 2 j) (t.2 3 j)) ≤ 0
        · rw [if_pos q0, if_pos q0]
        · rw [if_neg q0, if_neg q0]
          by_cases q3 : t.1 3 = 0
          · rw [if_pos q3, if_pos q3, hce, mroom, obn_s]
            by_cases e : n + c ≤ 6
            · rw [if_pos e, if_pos e, if_neg (by decide)]
              rfl
            · rw [if_neg e, if_neg e, if_pos rfl, q3]
              rfl
          · rw [if_neg q3, if_neg q3]
      by_cases out : z.1 17 = 0 ∧ ¬ fHm (t.2 4) (fR1 (t.2 0 j) (t.2 1 j) (t.2 2 j)) (fR2 (t.2 0 j) (t.2 2 j) (t.2 3 j)) = 0
      · -- its registers first
        have ao0 : x_AddressStream_isAtOutcome_29 z = some (0, z) := by rw [ao, if_pos out.1, if_neg out.2]
        have q0 : ¬ fHm (t.2 4) (fR1 (t.2 0 j) (t.2 1 j) (t.2 2 j)) (fR2 (t.2 0 j) (t.2 2 j) (t.2 3 j)) ≤ 0 := by
          rw [hce] at out ⊢
          refine nI_nle ?_ (by omega)
          apply Nat.pos_of_ne_zero
          intro e
          rw [e] at out
          exact out.2 nI_0
        rw [mf, if_neg q0, if_pos (by rw [← s1]; exact out.1)]
        have srv : x_AddressStream_serve_29 z (nI j) = if n + c ≤ 6 then obn (x_AddressStream_hand_29 z (z.2 5 j)) (fun _ z4 => obn (x_AddressStream_hand_29 z4 (z4.2 6 j)) (fun _ z5 => obn (x_Program_isBranch_1 z5 (nI j)) (fun r6 z6 => if r6 = 0 then (obn (x_Stream_leaveFor_29 z6 (nI j + 1)) (fun r7 z7 => gib r7 (some (r7, z7)))) else (gib 1 (bnd (stI z6 17 1) (fun z8 => gib 1 (some (1, z8)))))))) else some (0, z) := by
          simp only [x_AddressStream_serve_29, gin_n (show j < 24 by omega) (by decide : 24 < 2 ^ 31), cl_n (show j < 2 ^ 31 by omega), e0, if_neg k4, ao0, obn_s, if_true, e7, fPc_Hm hb, hce, xroom, gib_0]
          by_cases e : n + c ≤ 6
          · simp (decide := true) only [if_pos e, if_false]
          · simp (decide := true) only [if_neg e, if_true]
        rw [srv]
        by_cases e : n + c ≤ 6
        · obtain ⟨z1, z2, t2, p1, p2, p3, p4, p5, p6, p7, p8, p9⟩ := A_hand h hj hb g2 hce hc e
          refine ⟨1, stI z2 17 1, stI t2 3 1, Or.inr rfl, ?_, ?_, R_sent p4 (Or.inr rfl), fun _ => ?_, fun h => absurd h (by decide)⟩
          · rw [if_pos e, p1, obn_s, p2, obn_s, x_isBranch_s (by omega), p5.1 0 (by decide), e0, b1, obn_s, if_neg (by decide)]
            rfl
          · rw [if_pos e, p3, obn_s, obn_s]
            rfl
          · show t2.1 5 = 0
            rw [p9, h5]
        · refine ⟨0, z, t, Or.inl rfl, by rw [if_neg e], by rw [if_neg e]; rfl, h, fun h => absurd h (by decide), fun _ => by rw [ao0, h5]⟩
      · -- then the outcome
        have ao1 : x_AddressStream_isAtOutcome_29 z = some (1, z) := by
          rw [ao]
          by_cases q : z.1 17 = 0
          · rw [if_pos q, if_pos (Classical.byContradiction (fun hh => out ⟨q, hh⟩))]
          · rw [if_neg q]
        obtain ⟨r, z', t', d1, d2, d3, d4, d5, d6⟩ := A_follow h hj hz k67 (fHm (t.2 4) (fR1 (t.2 0 j) (t.2 1 j) (t.2 2 j)) (fR2 (t.2 0 j) (t.2 2 j) (t.2 3 j)))
        refine ⟨r, z', t', d1, ?_, ?_, d4, fun hr => by rw [d5 hr, h5], fun hr => ?_⟩
        · simp (decide := true) only [x_AddressStream_serve_29, gin_n (show j < 24 by omega) (by decide : 24 < 2 ^ 31), cl_n (show j < 2 ^ 31 by omega), e0, if_neg k4, ao1, obn_s, if_false]
          exact d2
        · have : m_follow t (nI j) = m_follow_41 t (nI j) (fHm (t.2 4) (fR1 (t.2 0 j) (t.2 1 j) (t.2 2 j)) (fR2 (t.2 0 j) (t.2 2 j) (t.2 3 j))) := by
            rw [mf]
            by_cases q0 : fHm (t.2 4) (fR1 (t.2 0 j) (t.2 1 j) (t.2 2 j)) (fR2 (t.2 0 j) (t.2 2 j) (t.2 3 j)) ≤ 0
            · rw [if_pos q0]
            · rw [if_neg q0]
              rw [if_neg]
              intro q3
              apply out
              refine ⟨by rw [s1]; exact q3, fun hh => q0 (by rw [hh]; decide)⟩
          rw [this, d3, obn_s, gib_b d1]
        · obtain ⟨w1, w2, w3, w4, w5⟩ := d6 hr
          have ao' := AO_s (z := z') hN (by rw [w4]; exact e1N) (by rw [w3]; exact hz) hj
          rw [w2, w5, e4, e0, e7, fPc_Hm hb, hb, if_pos rfl, b1, if_neg (by decide)] at ao'
          rw [ao', w1]
          by_cases q : z.1 17 = 0
          · rw [if_pos q, if_pos (Classical.byContradiction (fun hh => out ⟨q, hh⟩))]
          · rw [if_neg q]
