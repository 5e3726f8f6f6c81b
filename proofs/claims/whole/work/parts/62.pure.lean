/-- a move of the address stream -/
theorem stepA {bd N : Nat} {z t : ST} (h : Rel bd N z t) : ∃ r z' t', B01 r ∧ x_AddressStream_step_29 z = some (r, z') ∧ m_moveAddress t = some (r, t') ∧ Rel bd N z' t' ∧ (r = 1 → t'.1 5 = 0) ∧ (r = 0 → x_AddressStream_isAtOutcome_29 z' = some (t'.1 5, z')) := by
  obtain ⟨⟨a, ha24, hz, ht⟩, -⟩ := R_aa h
  have hs : N ≤ 24 ∧ z.1 1 = nI N ∧ t.1 0 = nI N := by
    obtain ⟨⟨p1, p2, p3, -⟩, -⟩ := h
    exact ⟨p1, p2, p3⟩
  obtain ⟨hN, hz1, ht0⟩ := hs
  by_cases hj : a < N
  · have h0 : Rel bd N z (stI t 5 0) := R_5 h
    have hat := R_at h0 hj
    have mf := mA_form h0 hj ht
    have hend : x_Run_hasEnded_29 z = some (0, z) := by
      simp only [x_Run_hasEnded_29, hz, hz1, gib_0]
      rw [if_pos (nI_lt hj (by omega))]
    have ao := AO_s hN hz1 hz hj
    have h5 : (stI t 5 0).1 5 = 0 := rfl
    rw [mf]
    generalize stI t 5 0 = t at h0 hat h5 ⊢
    obtain ⟨-, -, -, ok, e0, e1, e2, e3, e4, -⟩ := hat
    have xs : x_AddressStream_step_29 z = if fBel (t.2 0 a) (t.2 1 a) (t.2 2 a) (t.2 4) = 0 then obn (x_AddressStream_doOwn_29 z (nI a)) (fun r3 z3 => gib r3 (some (r3, z3))) else obn (x_AddressStream_serve_29 z (nI a)) (fun r2 z2 => gib r2 (some (r2, z2))) := by
      simp only [x_AddressStream_step_29, hend, obn_s, if_true, hz, gin_n (show a < 24 by omega) (by decide : 24 < 2 ^ 31), cl_n (show a < 2 ^ 31 by omega), e4]
    rw [xs]
    rcases fBel_01 (k := (t.2 0 a)) (a := (t.2 1 a)) (b := (t.2 2 a)) (d := (t.2 4)) with hb | hb
    · rw [if_pos hb]
      rw [e4, hb, if_neg (by decide)] at ao
      have n8 : ¬ (t.2 0 a) = 8 := by
        intro e
        rw [e, fBel_8] at hb
        revert hb; decide
      by_cases k4 : (t.2 0 a) = 4
      · obtain ⟨r, z', t', b1, b2, b3, b4, b5, b6⟩ := A_load h0 hj k4
        rw [if_pos hb] at b2
        refine ⟨r, z', t', b1, ?_, ?_, b4, fun _ => by rw [b5, h5], fun hr => ?_⟩
        · simp only [x_AddressStream_doOwn_29, gin_n (show a < 24 by omega) (by decide : 24 < 2 ^ 31), cl_n (show a < 2 ^ 31 by omega), e0, if_pos k4, b2, obn_s, gib_b b1]
        · unfold mA2
          rw [if_pos k4, b3, obn_s, gib_b b1]
        · rw [b6 hr, ao, b5, h5]
      · by_cases k5 : (t.2 0 a) = 5
        · obtain ⟨r, z', t', b1, b2, b3, b4, b5, b6⟩ := A_store h0 hj k5
          refine ⟨r, z', t', b1, ?_, ?_, b4, fun _ => by rw [b5, h5], fun hr => ?_⟩
          · simp only [x_AddressStream_doOwn_29, gin_n (show a < 24 by omega) (by decide : 24 < 2 ^ 31), cl_n (show a < 2 ^ 31 by omega), e0, if_neg k4, if_pos k5, b2, obn_s, gib_b b1]
          · unfold mA2
            rw [if_neg k4, if_pos k5, b3, obn_s, gib_b b1]
          · rw [b6 hr, ao, b5, h5]
        · have nb : ¬ fBel (t.2 0 a) (t.2 1 a) (t.2 2 a) (t.2 4) = 1 := by rw [hb]; decide
          rcases fBr_s ok with ⟨b0, n6, n7⟩ | ⟨b1, k67⟩
          · obtain ⟨z', t', c1, c2, c3, c4⟩ := A_comp h0 hj k4 k5 n6 n7 n8
            refine ⟨1, z', t', Or.inr rfl, ?_, ?_, c3, fun _ => by rw [c4, h5], fun hr => absurd hr (by decide)⟩
            · rw [c1, obn_s, gib_1]
            · unfold mA2
              rw [if_neg k4, if_neg k5, if_neg nb, if_pos b0, c2]
          · obtain ⟨r, z', t', n, c1, c2, c3, c4, c5, c6, c7, c8⟩ := A_br h0 hj k67
            refine ⟨r, z', t', c3, ?_, ?_, c6, fun _ => by rw [c7, h5], fun hr => ?_⟩
            · rw [c4, obn_s, gib_b c3]
            · have room := mq_room (t := t) (q := 2) (n := n) (m := 1) (x := 2) (by decide) (by decide) (by omega) (by decide) c2
              rw [show nI 1 = (1 : Int32) by decide, if_neg (show ¬ (2 : Nat) = 4 by decide)] at room
              unfold mA2
              rw [if_neg k4, if_neg k5, if_neg nb, if_neg (by rw [b1]; decide), room, obn_s, ← c5]
              by_cases e : n + 1 ≤ 4
              · rw [if_pos e, if_pos e, if_neg (by decide)]
              · rw [if_neg e, if_neg e, if_pos rfl]
            · rw [c8 hr, ao, c7, h5]
    · rw [if_neg (by rw [hb]; decide)]
      obtain ⟨r, z', t', d1, d2, d3, d4, d5, d6⟩ := A_serve h0 hj hz hb h5
      refine ⟨r, z', t', d1, by rw [d2, obn_s, gib_b d1], d3, d4, d5, d6⟩
  · have hend : x_Run_hasEnded_29 z = some (1, z) := by
      simp only [x_Run_hasEnded_29, hz, hz1, gib_1]
      rw [if_neg (nI_nlt (by omega) (by omega))]
    refine ⟨0, z, stI t 5 0, Or.inl rfl, ?_, ?_, R_5 h, fun hr => absurd hr (by decide), fun _ => ?_⟩
    · simp (decide := true) only [x_AddressStream_step_29, hend, obn_s, if_false, gib_0]
    · simp only [m_moveAddress, gin_r (show inR (0 : Int32) 2 = true by decide), show (0 : Int32).toNatClampNeg = 0 by decide, ht, gib_0, bnd_s]
      rw [if_neg]
      show ¬ nI a < t.1 0
      rw [ht0]
      exact nI_nlt (by omega) (by omega)
    · simp (decide := true) only [x_AddressStream_isAtOutcome_29, hend, obn_s, if_false, gib_0]
      rfl
