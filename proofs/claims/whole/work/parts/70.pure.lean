/-- what the reference reads first and second, 0 if it reads nothing there -/
def fW (t : ST) (h0 r : Int32) : Int32 := if 0 ≤ r then fV t h0 r else 0
/-- the takes of m_work -/
theorem mw_take {y1 y2 y4 y5 : Int32} {c : Nat} (hc : c ≤ 2) : ∀ (c' i n : Nat) (t t2 : ST) (y7 y8 : Int32), tk4 c' t = some t2 → i + c' = c → m_work_f (n + c' + 1) 4 t y1 y2 (nI c) y4 y5 (nI i) y7 y8 = obn (m_isBranch t2 y1) (fun r8 z8 => if r8 = 0 then m_work_f n 5 z8 y1 y2 (nI c) y4 y5 (nI c) 0 0 else obn (m_holds z8 y2 y4 y5) (fun r9 z9 => if r9 = 0 then m_work_f n 5 z9 y1 y2 (nI c) y4 y5 (nI c) 0 0 else m_work_f n 6 z9 y1 y2 (nI c) y4 y5 (nI c) 1 0)) := by
  intro c'
  induction c' with
  | zero =>
    intro i n t t2 y7 y8 h hi
    have e : i = c := by omega
    subst e
    simp only [tk4, Option.some.injEq] at h
    subst h
    show m_work_g87 (m_work_f n) t y1 y2 (nI i) y4 y5 (nI i) y7 y8 = _
    simp only [m_work_g87]
    rw [if_pos (nI_le (by omega) (by omega))]
  | succ c' ih =>
    intro i n t t2 y7 y8 h hi
    simp only [tk4] at h
    cases hm : m_take t 4 with
    | none => rw [hm] at h; cases h
    | some p =>
      obtain ⟨v, t1⟩ := p
      rw [hm] at h
      have k := ih (i + 1) n t1 t2 0 0 h (by omega)
      rw [← k]
      show m_work_g87 (m_work_f (n + c' + 1)) t y1 y2 (nI c) y4 y5 (nI i) y7 y8 = _
      simp only [m_work_g87, hm, obn_s, nI_1]
      rw [if_neg (nI_ge (by omega) (by omega))]
