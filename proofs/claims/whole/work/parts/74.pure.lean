/-- a move of the value stream -/
theorem stepVal {bd N : Nat} {z t : ST} (h : Rel bd N z t) (hbd : bd < 1000000) : ∃ r z' t', B01 r ∧ x_ValueStream_step_31 z = some (r, z') ∧ m_moveValue t = some (r, t') ∧ Rel (bd + 1) N z' t' := by
  obtain ⟨-, ⟨a, ha24, hz, ht⟩⟩ := R_aa h
  have hs : N ≤ 24 ∧ z.1 1 = nI N ∧ t.1 0 = nI N := by
    obtain ⟨⟨p1, p2, p3, -⟩, -⟩ := h
    exact ⟨p1, p2, p3⟩
  obtain ⟨hN, hz1, ht0⟩ := hs
  by_cases hj : a < N
  · obtain ⟨-, -, -, ok, e0, e1, e2, e3, e4, -⟩ := R_at h hj
    have h24 : a < 24 := by omega
    have gj : ∀ x : OR, gin (nI a) 24 x = x := fun x => gin_n h24 (by decide : 24 < 2 ^ 31)
    have cj : (nI a).toNatClampNeg = a := cl_n (show a < 2 ^ 31 by omega)
    have hend : x_Run_hasEnded_31 z = some (0, z) := by
      simp only [x_Run_hasEnded_31, hz, hz1, gib_0]
      rw [if_pos (nI_lt hj (by omega))]
    have lt : nI a < nI N := nI_lt hj (by omega)
    have xs : x_ValueStream_step_31 z = if fBel (t.2 0 a) (t.2 1 a) (t.2 2 a) (t.2 4) = 1 then (if t.2 0 a = 4 then obn (x_ValueStream_receiveLoad_31 z (nI a)) (fun r z => gib r (some (r, z))) else obn (x_ValueStream_doOwn_31 z (nI a)) (fun r z => gib r (some (r, z)))) else (if fBr (t.2 0 a) = 0 then obn (x_ValueStream_giveStored_31 z (nI a)) (fun r z => gib r (some (r, z))) else obn (x_Stream_followOutcome_31_17 z (nI a)) (fun r z => gib r (some (r, z)))) := by
      simp only [x_ValueStream_step_31, hend, obn_s, if_true, hz, gj, cj, e4, e0, x_isBranch_s h24]
    have ms : m_moveValue t = if fBel (t.2 0 a) (t.2 1 a) (t.2 2 a) (t.2 4) = 0 then (if fBr (t.2 0 a) = 0 then obn (m_give t (nI a)) (fun r z => gib r (some (r, z))) else (if t.2 10 2 = 0 then some (0, t) else obn (m_take t 2) (fun r8 z8 => if r8 = 1 then m_moveValue_73 z8 (nI a) 1 (z8.2 3 a) else m_moveValue_73 z8 (nI a) 1 (nI a + 1)))) else (if t.2 0 a = 4 then (if t.2 10 0 = 0 then some (0, t) else obn (m_take t 0) (fun r3 z3 => gin (8 + t.2 1 a) 16 (bnd (stA z3 5 (upd (z3.2 5) (8 + t.2 1 a).toNatClampNeg r3)) (fun z4 => obn (m_leave z4 1 (nI a + 1)) (fun _ z5 => some (1, z5)))))) else obn (m_work t (nI a)) (fun r z => gib r (some (r, z)))) := by
      simp only [m_moveValue, gin_r (show inR (1 : Int32) 2 = true by decide), show (1 : Int32).toNatClampNeg = 1 by decide, gin_r (show inR (2 : Int32) 5 = true by decide), show (2 : Int32).toNatClampNeg = 2 by decide, gin_r (show inR (0 : Int32) 5 = true by decide), show (0 : Int32).toNatClampNeg = 0 by decide, ht, ht0, if_pos lt, m_belongs_s h24 ok, obn_s, m_isBranch_s h24, gj, cj, gib_0, gib_1]
    rw [xs, ms]
    rcases fBel_01 (k := (t.2 0 a)) (a := (t.2 1 a)) (b := (t.2 2 a)) (d := (t.2 4)) with hb | hb
    · rw [if_neg (by rw [hb]; decide), if_pos hb]
      rcases fBr_s ok with ⟨b0, n6, n7⟩ | ⟨b1, k67⟩
      · obtain ⟨r, z', t', c1, c2, c3, c4⟩ := V_give h hj hb b0 ht
        rw [if_pos b0, if_pos b0]
        exact ⟨r, z', t', c1, by rw [c2, obn_s, gib_b c1], by rw [c3, obn_s, gib_b c1], R_mono c4⟩
      · obtain ⟨r, z', t', c1, c2, c3, c4⟩ := V_follow h hj k67
        have nb : ¬ fBr (t.2 0 a) = 0 := by rw [b1]; decide
        rw [if_neg nb, if_neg nb]
        exact ⟨r, z', t', c1, by rw [c2, obn_s, gib_b c1], c3, R_mono c4⟩
    · have nb : ¬ fBel (t.2 0 a) (t.2 1 a) (t.2 2 a) (t.2 4) = 0 := by rw [hb]; decide
      rw [if_pos hb, if_neg nb]
      by_cases k4 : t.2 0 a = 4
      · obtain ⟨r, z', t', c1, c2, c3, c4⟩ := V_load h hj
        rw [if_pos k4, if_pos k4]
        exact ⟨r, z', t', c1, by rw [c2, obn_s, gib_b c1], c3, R_mono c4⟩
      · obtain ⟨r, z', t', c1, c2, c3, c4⟩ := V_work h hbd hj hb k4
        rw [if_neg k4, if_neg k4]
        exact ⟨r, z', t', c1, by rw [c2, obn_s, gib_b c1], by rw [c3, obn_s, gib_b c1], c4⟩
  · have hend : x_Run_hasEnded_31 z = some (1, z) := by
      simp only [x_Run_hasEnded_31, hz, hz1, gib_1]
      rw [if_neg (nI_nlt (by omega) (by omega))]
    refine ⟨0, z, t, Or.inl rfl, ?_, ?_, R_mono h⟩
    · simp (decide := true) only [x_ValueStream_step_31, hend, obn_s, if_false, gib_0]
    · simp only [m_moveValue, gin_r (show inR (1 : Int32) 2 = true by decide), show (1 : Int32).toNatClampNeg = 1 by decide, ht, ht0, gib_0]
      rw [if_neg (nI_nlt (by omega) (by omega))]
