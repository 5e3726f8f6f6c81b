/-- a register that was handed over is received -/
theorem V_recv {bd N n : Nat} {z t : ST} {r : Int32} (h : Rel bd N z t) (hr : R8 r) (hd : ¬ t.2 4 r.toNatClampNeg = 0) (hn : 0 < n) (hle : n ≤ 6) (hz : z.1 12 = nI n) : ∃ z' t', x_ValueStream_receive_31 z r = some (0, z') ∧ m_take t 4 = some (t.2 9 24, t') ∧ Rel bd N z' t' ∧ SP z z' t t' ∧ z'.1 12 = nI (n - 1) ∧ z'.1 18 = z.1 18 ∧ z'.2 21 = upd (z.2 21) r.toNatClampNeg (t.2 9 24) ∧ t'.2 5 = t.2 5 ∧ t'.1 = t.1 ∧ (1 < n → t'.2 9 24 = t.2 9 25) := by
  obtain ⟨i, hi, hie, hic, hir, -, hm1⟩ := R8_cl hr
  obtain ⟨v, z1, t1, a1, a2, a3, a4, a5, a6, a7, a8, a9, a10, a11, a12, a13, a14, a15⟩ := Rq_take4 (n := n) h hn hle hz
  subst a4
  rw [hic] at hd ⊢
  refine ⟨stA z1 21 (upd (z1.2 21) i (t.2 9 24)), t1, ?_, a2, R_cpV a5 (by rw [a6.2.2.2.1 4 (by decide)]; exact hd), ⟨fun q hq => ?_, a6.2.1, a6.2.2.1, a6.2.2.2.1, a6.2.2.2.2⟩, a7, a9, ?_, a13, a14, a15⟩
  · simp only [x_ValueStream_receive_31, if_neg hm1, a1, obn_s, gin_r hir, hic, bnd_s]
  · rw [s2_n (by omega)]
    exact a6.1 q hq
  · show upd (z1.2 21) i (t.2 9 24) = _
    rw [a12]
theorem x_recv_m1 {z : ST} : x_ValueStream_receive_31 z (-1) = some (0, z) := by
  simp only [x_ValueStream_receive_31, if_true]
