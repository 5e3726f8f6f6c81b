theorem fAd_R8' {d : Nat → Int32} {r : Int32} (h : r = -1 ∨ R8 r) (ha : ¬ fAd d r = 0) : R8 r ∧ ¬ d r.toNatClampNeg = 0 := by
  rcases h with h | h
  · rw [h] at ha; exact absurd rfl ha
  · refine ⟨h, fun e => ha ?_⟩
    rw [fAd_R8 h, if_pos e]
/-- which registers go through R: the class's two places and the reference's -/
theorem H_cases {k a b c : Int32} {d : Nat → Int32} (ho : okI k a b c) (hb : fBel k a b d = 1) :
    (fHm d (fR1 k a b) (fR2 k b c) = 0 ∧ fP1 k a b d = -1 ∧ fP2 k a b c d = -1) ∨
    (fHm d (fR1 k a b) (fR2 k b c) = 1 ∧ ∃ r, R8 r ∧ ¬ d r.toNatClampNeg = 0 ∧ fH0 d (fR1 k a b) (fR2 k b c) = r ∧ ((fP1 k a b d = r ∧ fP2 k a b c d = -1) ∨ (fP1 k a b d = -1 ∧ fP2 k a b c d = r))) ∨
    (fHm d (fR1 k a b) (fR2 k b c) = 2 ∧ R8 (fR1 k a b) ∧ R8 (fR2 k b c) ∧ ¬ fR2 k b c = fR1 k a b ∧ ¬ d (fR1 k a b).toNatClampNeg = 0 ∧ ¬ d (fR2 k b c).toNatClampNeg = 0 ∧ fP1 k a b d = fR1 k a b ∧ fP2 k a b c d = fR2 k b c ∧ fH0 d (fR1 k a b) (fR2 k b c) = fR1 k a b ∧ fH1 d (fR1 k a b) (fR2 k b c) = fR2 k b c) := by
  obtain ⟨h1, h2⟩ := okI_r ho
  simp only [fP1, fP2, fHm, fH0, fH1, fTwo, hb, if_true]
  by_cases e1 : fAd d (fR1 k a b) = 0
  · by_cases e3 : fAd d (fR2 k b c) = 0
    · left
      simp [e1, e3]
    · right; left
      obtain ⟨q1, q2⟩ := fAd_R8' h2 e3
      have e2 : ¬ fR2 k b c = fR1 k a b := fun e => e3 (by rw [e]; exact e1)
      refine ⟨by simp [e1, e3], fR2 k b c, q1, q2, by simp [e1, e3], Or.inr (by simp [e1, e2, e3])⟩
  · obtain ⟨q1, q2⟩ := fAd_R8' h1 e1
    by_cases e3 : fAd d (fR2 k b c) = 0
    · right; left
      exact ⟨by simp [e1, e3], fR1 k a b, q1, q2, by simp [e1], Or.inl (by simp [e1, e3])⟩
    · obtain ⟨p1, p2⟩ := fAd_R8' h2 e3
      by_cases e2 : fR2 k b c = fR1 k a b
      · right; left
        refine ⟨by simp [e1, e2], fR1 k a b, q1, q2, by simp [e1], Or.inl (by simp [e1, e2])⟩
      · right; right
        exact ⟨by simp [e1, e2, e3], q1, p1, e2, q2, p2, by simp [e1], by simp [e2, e3], by simp [e1], by simp [e1, e2, e3]⟩
theorem A_put {bd N n : Nat} {z t : ST} {r : Int32} (h : Rel bd N z t) (hr : R8 r) (hn : n < 6) (hz : z.1 12 = nI n) : ∃ z' t', x_AddressStream_hand_29 z r = some (0, z') ∧ m_put t 4 (t.2 5 r.toNatClampNeg) = some (0, t') ∧ inR r 16 = true ∧ Rel bd N z' t' ∧ SP z z' t t' ∧ z'.1 12 = nI (n + 1) ∧ z'.1 15 = z.1 15 ∧ z'.1 17 = z.1 17 ∧ t'.2 5 = t.2 5 ∧ t'.1 3 = t.1 3 ∧ t'.1 5 = t.1 5 := by
  obtain ⟨i, hi, hie, hic, hir, -, hm1⟩ := R8_cl hr
  have hA := (R_mb h).2.2.1 i hi
  rw [Nat.zero_add] at hA
  obtain ⟨z', t', a1, a2, a3, a4, a5, a6, a7, a8, a9, a10, a11, a12, a13⟩ := Rq_put4 (n := n) (v := z.2 20 i) h hn hz trivial
  refine ⟨z', t', ?_, by rw [hic, ← hA]; exact a2, by rw [hie]; exact inR_n (by omega) (by decide), a3, a4, a5, a6, a8, a11, a12, a13⟩
  simp only [x_AddressStream_hand_29, if_neg hm1, gin_r hir, hic, a1, obn_s]
theorem x_hand_m1 {z : ST} : x_AddressStream_hand_29 z (-1) = some (0, z) := by
  simp only [x_AddressStream_hand_29, if_true]
theorem m_hand_go {t : ST} {j q : Nat} (hj : j < 24) (ho : okI (t.2 0 j) (t.2 1 j) (t.2 2 j) (t.2 3 j)) (r : Nat) : m_hand_f (r + 1) 1 t (nI j) (nI q) = if fHm (t.2 4) (fR1 (t.2 0 j) (t.2 1 j) (t.2 2 j)) (fR2 (t.2 0 j) (t.2 2 j) (t.2 3 j)) ≤ nI q then some (0, t) else gin (if nI q = 0 then fH0 (t.2 4) (fR1 (t.2 0 j) (t.2 1 j) (t.2 2 j)) (fR2 (t.2 0 j) (t.2 2 j) (t.2 3 j)) else fH1 (t.2 4) (fR1 (t.2 0 j) (t.2 1 j) (t.2 2 j)) (fR2 (t.2 0 j) (t.2 2 j) (t.2 3 j))) 16 (obn (m_put t 4 (t.2 5 (if nI q = 0 then fH0 (t.2 4) (fR1 (t.2 0 j) (t.2 1 j) (t.2 2 j)) (fR2 (t.2 0 j) (t.2 2 j) (t.2 3 j)) else fH1 (t.2 4) (fR1 (t.2 0 j) (t.2 1 j) (t.2 2 j)) (fR2 (t.2 0 j) (t.2 2 j) (t.2 3 j))).toNatClampNeg)) (fun _ z3 => m_hand_f r 1 z3 (nI j) (nI (q + 1)))) := by
  show m_hand_g2 (m_hand_f r) t (nI j) (nI q) = _
  simp only [m_hand_g2, m_howMany_s hj ho, obn_s, m_handed_s hj ho, nI_1]
/-- the registers are handed over alike -/
theorem A_hand {bd N j n c : Nat} {z t : ST} (h : Rel bd N z t) (hj : j < N) (hb : fBel (t.2 0 j) (t.2 1 j) (t.2 2 j) (t.2 4) = 1) (hz : z.1 12 = nI n) (hc : fHm (t.2 4) (fR1 (t.2 0 j) (t.2 1 j) (t.2 2 j)) (fR2 (t.2 0 j) (t.2 2 j) (t.2 3 j)) = nI c) (hcc : c ≤ 2) (hn : n + c ≤ 6) : ∃ z1 z' t', x_AddressStream_hand_29 z (z.2 5 j) = some (0, z1) ∧ x_AddressStream_hand_29 z1 (z1.2 6 j) = some (0, z') ∧ m_hand t (nI j) = some (0, t') ∧ Rel bd N z' t' ∧ SP z z' t t' ∧ z'.1 15 = z.1 15 ∧ z'.1 17 = z.1 17 ∧ t'.1 3 = t.1 3 ∧ t'.1 5 = t.1 5 := by
  obtain ⟨hN, -, -, ok, e0, e1, e2, e3, e4, e5, e6, e7⟩ := R_at h hj
  have m0 : m_hand t (nI j) = m_hand_f (3998 + 1) 1 t (nI j) (nI 0) := by
    rw [nI_0]
    show m_hand_g0 (m_hand_f 3999) t (nI j) 0 = _
    simp only [m_hand_g0]
  rcases H_cases ok hb with ⟨c0, p1, p2⟩ | ⟨c1, r, hr, hd, f0, pp⟩ | ⟨c2, hr1, hr2, hne, hd1, hd2, p1, p2, f0, f1⟩
  · refine ⟨z, z, t, by rw [e5, p1]; exact x_hand_m1, by rw [e6, p2]; exact x_hand_m1, ?_, h, SP.rf, rfl, rfl, rfl, rfl⟩
    rw [m0, m_hand_go (by omega) ok, c0, if_pos (by decide)]
  · have ec : c = 1 := (nI_eq (by omega) (by omega)).mp (hc.symm.trans c1)
    subst ec
    obtain ⟨z', t', a1, a2, a3, a4, a5, a6, a7, a8, a9, a10, a11⟩ := A_put h hr (show n < 6 by omega) hz
    have k5 : ∀ q, q < 5 → t'.2 q = t.2 q := a5.2.2.2.1
    have mh : m_hand t (nI j) = some (0, t') := by
      rw [m0, m_hand_go (by omega) ok, c1, if_neg (by decide), if_pos (by decide), f0, gin_r a3, a2, obn_s]
      rw [show (3998 : Nat) = 3997 + 1 by decide, m_hand_go (by omega) (by rw [k5 0 (by decide), k5 1 (by decide), k5 2 (by decide), k5 3 (by decide)]; exact ok), k5 0 (by decide), k5 1 (by decide), k5 2 (by decide), k5 3 (by decide), k5 4 (by decide), c1, if_pos (by decide)]
    have z6 : z'.2 6 j = z.2 6 j := by rw [a5.1 6 (by decide)]
    rcases pp with ⟨p1, p2⟩ | ⟨p1, p2⟩
    · exact ⟨z', z', t', by rw [e5, p1]; exact a1, by rw [z6, e6, p2]; exact x_hand_m1, mh, a4, a5, a7, a8, a10, a11⟩
    · exact ⟨z, z', t', by rw [e5, p1]; exact x_hand_m1, by rw [e6, p2]; exact a1, mh, a4, a5, a7, a8, a10, a11⟩
  · have ec : c = 2 := (nI_eq (by omega) (by omega)).mp (hc.symm.trans c2)
    subst ec
    obtain ⟨z1, t1, a1, a2, a3, a4, a5, a6, a7, a8, a9, a10, a11⟩ := A_put h hr1 (show n < 6 by omega) hz
    obtain ⟨z', t', b1, b2, b3, b4, b5, b6, b7, b8, b9, b10, b11⟩ := A_put a4 hr2 (show n + 1 < 6 by omega) a6
    have k5 : ∀ q, q < 5 → t1.2 q = t.2 q := a5.2.2.2.1
    have l5 : ∀ q, q < 5 → t'.2 q = t.2 q := fun q hq => (b5.2.2.2.1 q hq).trans (k5 q hq)
    have z6 : z1.2 6 j = z.2 6 j := by rw [a5.1 6 (by decide)]
    refine ⟨z1, z', t', by rw [e5, p1]; exact a1, by rw [z6, e6, p2]; exact b1, ?_, b4, a5.tr b5, b7.trans a7, b8.trans a8, b10.trans a10, b11.trans a11⟩
    rw [m0, m_hand_go (by omega) ok, c2, if_neg (by decide), if_pos (by decide), f0, gin_r a3, a2, obn_s]
    rw [show (3998 : Nat) = 3997 + 1 by decide, m_hand_go (by omega) (by rw [k5 0 (by decide), k5 1 (by decide), k5 2 (by decide), k5 3 (by decide)]; exact ok), k5 0 (by decide), k5 1 (by decide), k5 2 (by decide), k5 3 (by decide), k5 4 (by decide), c2, if_neg (by decide), if_neg (by decide), f1, gin_r b3, b2, obn_s]
    rw [show (3997 : Nat) = 3996 + 1 by decide, m_hand_go (by omega) (by rw [l5 0 (by decide), l5 1 (by decide), l5 2 (by decide), l5 3 (by decide)]; exact ok), l5 0 (by decide), l5 1 (by decide), l5 2 (by decide), l5 3 (by decide), l5 4 (by decide), c2, if_pos (by decide)]
