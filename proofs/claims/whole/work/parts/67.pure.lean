/-- an address register that is read goes through R; if one alone goes, it is that one -/
theorem fH_one {d : Nat → Int32} {r r1 r2 : Int32} (hr : R8 r) (hd : ¬ d r.toNatClampNeg = 0) (h : r = r1 ∨ r = r2) : ¬ fHm d r1 r2 = 0 ∧ (fHm d r1 r2 = 1 → fH0 d r1 r2 = r) := by
  have ha : fAd d r = 1 := by rw [fAd_R8 hr, if_neg hd]
  have n10 : ¬ (1 : Int32) = 0 := by decide
  have n20 : ¬ (2 : Int32) = 0 := by decide
  have n21 : ¬ (2 : Int32) = 1 := by decide
  rcases h with h | h
  · subst h
    simp only [fHm, fH0, ha, if_neg n10]
    by_cases q : fTwo d r r2 = 0
    · simp only [if_pos q, n10, not_false_eq_true, true_and, implies_true, and_self]
    · simp only [if_neg q, n20, not_false_eq_true, true_and, implies_true, and_self]
  · subst h
    by_cases e1 : fAd d r1 = 0
    · simp only [fHm, fH0, fTwo, ha, e1, if_neg n10, if_true, if_false, n10, not_false_eq_true, true_and, implies_true, and_self]
    · by_cases e2 : r = r1
      · subst e2
        simp only [fHm, fH0, fTwo, ha, if_neg n10, if_true, if_false, n10, not_false_eq_true, true_and, implies_true, and_self]
      · simp only [fHm, fH0, fTwo, ha, if_neg n10, if_neg e1, if_neg e2, n20, n21, not_false_eq_true, true_and, false_implies]
