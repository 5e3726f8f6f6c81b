/-- the value that an instruction of the value stream reads in register r: its own, or what was handed over -/
def fV (t : ST) (h0 r : Int32) : Int32 := if t.2 4 r.toNatClampNeg = 0 then t.2 5 (8 + r.toNatClampNeg) else if h0 = r then t.2 9 24 else t.2 9 25
theorem m_valueOf_s {t : ST} {j : Nat} {q r : Int32} (hj : j < 24) (ok : okI (t.2 0 j) (t.2 1 j) (t.2 2 j) (t.2 3 j)) (hq : m_reads t (nI j) q = some (r, t)) (hr : R8 r) : m_valueOf t (nI j) q = some (fV t (fH0 (t.2 4) (fR1 (t.2 0 j) (t.2 1 j) (t.2 2 j)) (fR2 (t.2 0 j) (t.2 2 j) (t.2 3 j))) r, t) := by
  obtain ⟨i, hi, hie, hic, hir, -, -⟩ := R8_cl hr
  obtain ⟨i16, c16⟩ := R8_8 hi hie
  simp only [m_valueOf, hq, obn_s, gin_r hir, gin_r i16, c16, m_handed_s hj ok, if_true, fV, hic]
  rw [show (24 + 0 : Int32).toNatClampNeg = 24 by decide, show (24 + 1 : Int32).toNatClampNeg = 25 by decide, gin_r (show inR (24 + 0 : Int32) 30 = true by decide), gin_r (show inR (24 + 1 : Int32) 30 = true by decide)]
  by_cases d0 : t.2 4 i = 0
  · rw [if_pos d0, if_pos d0]
  · rw [if_neg d0, if_neg d0]
    by_cases e : fH0 (t.2 4) (fR1 (t.2 0 j) (t.2 1 j) (t.2 2 j)) (fR2 (t.2 0 j) (t.2 2 j) (t.2 3 j)) = r
    · rw [if_pos e, if_pos e]
    · rw [if_neg e, if_neg e]
