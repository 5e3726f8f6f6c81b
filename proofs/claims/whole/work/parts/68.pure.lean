/-- c takes from the queue of registers -/
def tk4 : Nat → ST → Option ST
  | 0, t => some t
  | c + 1, t => match m_take t 4 with
    | some (_, t') => tk4 c t'
    | none => none
/-- both registers are received, and the class reads what the reference reads -/
theorem V_recvs {bd N j n c : Nat} {z t : ST} (h : Rel bd N z t) (hj : j < N) (hb : fBel (t.2 0 j) (t.2 1 j) (t.2 2 j) (t.2 4) = 1) (hz : z.1 12 = nI n) (hn6 : n ≤ 6) (hc : fHm (t.2 4) (fR1 (t.2 0 j) (t.2 1 j) (t.2 2 j)) (fR2 (t.2 0 j) (t.2 2 j) (t.2 3 j)) = nI c) (hcc : c ≤ 2) (hn : c ≤ n) : ∃ z1 z2 t2, x_ValueStream_receive_31 z (z.2 5 j) = some (0, z1) ∧ x_ValueStream_receive_31 z1 (z1.2 6 j) = some (0, z2) ∧ tk4 c t = some t2 ∧ Rel bd N z2 t2 ∧ SP z z2 t t2 ∧ z2.1 18 = z.1 18 ∧ t2.2 5 = t.2 5 ∧ t2.1 = t.1 ∧ (∀ r, R8 r → r = fR1 (t.2 0 j) (t.2 1 j) (t.2 2 j) ∨ r = fR2 (t.2 0 j) (t.2 2 j) (t.2 3 j) → z2.2 21 r.toNatClampNeg = fV t (fH0 (t.2 4) (fR1 (t.2 0 j) (t.2 1 j) (t.2 2 j)) (fR2 (t.2 0 j) (t.2 2 j) (t.2 3 j))) r) := by
  obtain ⟨hN, -, -, ok, e0, e1, e2, e3, e4, e5, e6, e7⟩ := R_at h hj
  have hv := (R_mb h).2.2.2.1
  have own : ∀ r, R8 r → t.2 4 r.toNatClampNeg = 0 → ∀ x, z.2 21 r.toNatClampNeg = fV t x r := by
    intro r hr hd x
    obtain ⟨i, hi, hie, hic, hir, -, -⟩ := R8_cl hr
    rw [fV, if_pos hd, hic]
    rw [hic] at hd
    exact hv i hi hd
  rcases H_cases ok hb with ⟨c0, p1, p2⟩ | ⟨c1, r, hr, hd, f0, pp⟩ | ⟨c2, hr1, hr2, hne, hd1, hd2, p1, p2, f0, f1⟩
  · have ec : c = 0 := (nI_eq (by omega) (by omega)).mp (hc.symm.trans (c0.trans nI_0.symm))
    subst ec
    refine ⟨z, z, t, by rw [e5, p1]; exact x_recv_m1, by rw [e6, p2]; exact x_recv_m1, rfl, h, SP.rf, rfl, rfl, rfl, fun r hr hrr => ?_⟩
    refine own r hr (Classical.byContradiction (fun hd => (fH_one hr hd hrr).1 c0)) _
  · have ec : c = 1 := (nI_eq (by omega) (by omega)).mp (hc.symm.trans (c1.trans (by decide)))
    subst ec
    obtain ⟨z', t', a1, a2, a3, a4, a5, a6, a7, a8, a9, a10⟩ := V_recv (n := n) h hr hd (by omega) hn6 hz
    have rd : ∀ s, R8 s → s = fR1 (t.2 0 j) (t.2 1 j) (t.2 2 j) ∨ s = fR2 (t.2 0 j) (t.2 2 j) (t.2 3 j) → z'.2 21 s.toNatClampNeg = fV t (fH0 (t.2 4) (fR1 (t.2 0 j) (t.2 1 j) (t.2 2 j)) (fR2 (t.2 0 j) (t.2 2 j) (t.2 3 j))) s := by
      intro s hs hss
      rw [a7]
      by_cases ds : t.2 4 s.toNatClampNeg = 0
      · have ne : ¬ s.toNatClampNeg = r.toNatClampNeg := fun e => hd (by rw [← e]; exact ds)
        simp only [upd, if_neg ne]
        exact own s hs ds _
      · have e := (fH_one hs ds hss).2 c1
        have er : r = s := f0.symm.trans e
        subst er
        simp only [upd, if_true, fV, if_neg hd, f0]
    have tk : tk4 1 t = some t' := by simp only [tk4, a2]
    rcases pp with ⟨p1, p2⟩ | ⟨p1, p2⟩
    · exact ⟨z', z', t', by rw [e5, p1]; exact a1, by rw [a4.1 6 (by decide), e6, p2]; exact x_recv_m1, tk, a3, a4, a6, a8, a9, rd⟩
    · exact ⟨z, z', t', by rw [e5, p1]; exact x_recv_m1, by rw [e6, p2]; exact a1, tk, a3, a4, a6, a8, a9, rd⟩
  · have ec : c = 2 := (nI_eq (by omega) (by omega)).mp (hc.symm.trans (c2.trans (by decide)))
    subst ec
    obtain ⟨z1, t1, a1, a2, a3, a4, a5, a6, a7, a8, a9, a10⟩ := V_recv (n := n) h hr1 hd1 (by omega) hn6 hz
    obtain ⟨z2, t2, b1, b2, b3, b4, b5, b6, b7, b8, b9, b10⟩ := V_recv (n := n - 1) a3 hr2 (by rw [a4.2.2.2.1 4 (by decide)]; exact hd2) (by omega) (by omega) a5
    refine ⟨z1, z2, t2, by rw [e5, p1]; exact a1, by rw [a4.1 6 (by decide), e6, p2]; exact b1, by simp only [tk4, a2, b2], b3, a4.tr b4, b6.trans a6, b8.trans a8, b9.trans a9, ?_⟩
    intro s hs hss
    have nn : ¬ (fR1 (t.2 0 j) (t.2 1 j) (t.2 2 j)).toNatClampNeg = (fR2 (t.2 0 j) (t.2 2 j) (t.2 3 j)).toNatClampNeg := by
      obtain ⟨i1, hi1, q1, q2, -⟩ := R8_cl hr1
      obtain ⟨i2, hi2, q3, q4, -⟩ := R8_cl hr2
      intro e
      rw [q2, q4] at e
      exact hne (by rw [q1, q3, e])
    rw [b7, a7, a10 (by omega)]
    rcases hss with e | e
    · rw [e]
      simp only [upd, if_neg nn, if_true, fV, if_neg hd1, f0]
    · rw [e]
      have n2 : ¬ fR1 (t.2 0 j) (t.2 1 j) (t.2 2 j) = fR2 (t.2 0 j) (t.2 2 j) (t.2 3 j) := fun e => hne e.symm
      simp only [upd, if_true, fV, if_neg hd2, f0, if_neg n2]
