theorem R8_pos {r : Int32} (h : R8 r) : ¬ r < 0 := (R8_cl h).choose_spec.2.2.2.2.1
theorem fH_s {d : Nat → Int32} {r1 r2 : Int32} (h1 : r1 = -1 ∨ R8 r1) (h2 : r2 = -1 ∨ R8 r2) : (fH1 d r1 r2 < 0 ↔ ¬ fHm d r1 r2 = 2) ∧ (fH0 d r1 r2 < 0 ↔ fHm d r1 r2 = 0) := by
  have m1 : (-1 : Int32) < 0 := by decide
  have e1 : ∀ r : Int32, (r = -1 ∨ R8 r) → ¬ fAd d r = 0 → ¬ r < 0 := by
    intro r h hf hr
    exact hf (by simp only [fAd, if_pos hr])
  have e2 : ¬ fTwo d r1 r2 = 0 → ¬ r2 < 0 := by
    intro h
    apply e1 r2 h2
    intro hf
    exact h (by simp only [fTwo, if_pos hf])
  simp only [fH0, fH1, fHm]
  by_cases ha : fAd d r1 = 0
  · by_cases hb : fTwo d r1 r2 = 0
    · simp (decide := true) only [if_pos ha, if_pos hb, iff_true, not_false_eq_true, and_self]
    · simp (decide := true) only [if_pos ha, if_neg hb, e2 hb, iff_true, iff_false, not_false_eq_true, and_self]
  · by_cases hb : fTwo d r1 r2 = 0
    · simp (decide := true) only [if_neg ha, if_pos hb, e1 r1 h1 ha, iff_true, iff_false, not_false_eq_true, and_self]
    · simp (decide := true) only [if_neg ha, if_neg hb, e2 hb, e1 r1 h1 ha, iff_true, iff_false, not_false_eq_true, and_self, not_true_eq_false]
theorem fHm_3 {d : Nat → Int32} {r1 r2 : Int32} : fHm d r1 r2 = 0 ∨ fHm d r1 r2 = 1 ∨ fHm d r1 r2 = 2 := by
  simp only [fHm]
  (repeat' split) <;> simp
theorem m_howMany_s {t : ST} {j : Nat} (hj : j < 24) (ho : okI (t.2 0 j) (t.2 1 j) (t.2 2 j) (t.2 3 j)) : m_howMany t (nI j) = some (fHm (t.2 4) (fR1 (t.2 0 j) (t.2 1 j) (t.2 2 j)) (fR2 (t.2 0 j) (t.2 2 j) (t.2 3 j)), t) := by
  simp (decide := true) only [m_howMany, m_handed_s hj ho, obn_s, if_true, if_false]
  obtain ⟨h1, h2⟩ := okI_r ho
  have hs := fH_s (d := t.2 4) h1 h2
  rcases fHm_3 (d := t.2 4) (r1 := fR1 (t.2 0 j) (t.2 1 j) (t.2 2 j)) (r2 := fR2 (t.2 0 j) (t.2 2 j) (t.2 3 j)) with h | h | h
  all_goals rw [h] at hs; simp (decide := true) only [iff_true, iff_false, not_true_eq_false, not_false_eq_true] at hs
  all_goals simp only [h, if_pos, if_neg, hs, not_false_eq_true, if_true, if_false]
theorem fBel_01 {k a b : Int32} {d : Nat → Int32} : fBel k a b d = 0 ∨ fBel k a b d = 1 := by
  simp only [fBel]
  (repeat' split) <;> simp
theorem m_isNothing0_s {t : ST} {j : Nat} (hj : j < 24) (ho : okI (t.2 0 j) (t.2 1 j) (t.2 2 j) (t.2 3 j)) : m_isNothing t 0 (nI j) = some (fN0 (t.2 0 j) (t.2 1 j) (t.2 2 j) (t.2 3 j) (t.2 4), t) := by
  simp only [m_isNothing, m_isBranch_s hj, m_belongs_s hj ho, m_howMany_s hj ho, obn_s, gin_n hj (by decide : 24 < 2 ^ 31), cl_n (show j < 2 ^ 31 by omega), gib_0, gib_1, fN0, if_true]
  (repeat' split) <;> rfl
theorem m_isNothing1_s {t : ST} {j : Nat} (hj : j < 24) (ho : okI (t.2 0 j) (t.2 1 j) (t.2 2 j) (t.2 3 j)) : m_isNothing t 1 (nI j) = some (fN1 (t.2 0 j) (t.2 1 j) (t.2 2 j) (t.2 4), t) := by
  obtain ⟨ia, -, -, -, hai, -⟩ := R8_cl ho.1
  simp (decide := true) only [m_isNothing, m_isBranch_s hj, m_belongs_s hj ho, m_howMany_s hj ho, obn_s, gin_n hj (by decide : 24 < 2 ^ 31), cl_n (show j < 2 ^ 31 by omega), gib_0, gib_1, fN1, gin_r hai, if_true, if_false]
  (repeat' split) <;> rfl
-- the class's own words for the same
def MB (mask : Int32) (d : Nat → Int32) : Prop := ∃ k : Nat, k < 256 ∧ mask = nI k ∧ ∀ q, q < 8 → (k.testBit q = false ↔ d q = 0)
set_option maxRecDepth 100000 in
theorem mb_bit : ∀ k, k < 256 → ∀ q, q < 8 → (((nI k >>> (nI q &&& 31)) &&& 1) = 0 ↔ k.testBit q = false) := by decide +kernel
theorem x_isAddr_s {z : ST} {d : Nat → Int32} {r : Int32} (hm : MB (z.1 2) d) (hr : r = -1 ∨ R8 r) : x_Program_isAddressRegister_1 z r = some (fAd d r, z) := by
  obtain ⟨k, hk, hm, hb⟩ := hm
  simp only [x_Program_isAddressRegister_1, hm, gib_0, gib_1, fAd]
  rcases hr with rfl | hr
  · simp (decide := true) only [if_true]
  · obtain ⟨i, hi, rfl, hc, -, hn, h1⟩ := R8_cl hr
    rw [if_neg h1, if_neg hn, hc]
    have e := (mb_bit k hk i hi).trans (hb i hi)
    by_cases h : d i = 0
    · rw [if_pos (e.mpr h), if_pos h]
    · rw [if_neg (fun x => h (e.mp x)), if_neg h]
theorem x_isBranch_s {z : ST} {j : Nat} (hj : j < 24) : x_Program_isBranch_1 z (nI j) = some (fBr (z.2 0 j), z) := by
  simp only [x_Program_isBranch_1, gin_n hj (by decide : 24 < 2 ^ 31), cl_n (show j < 2 ^ 31 by omega), gib_0, gib_1, fBr]
  (repeat' split) <;> rfl
def fAr (k : Int32) : Int32 := if k = 1 then 1 else if k = 2 then 1 else if k = 3 then 1 else 0
theorem x_isArith_s {z : ST} {j : Nat} (hj : j < 24) : x_Program_isArithmetic_1 z (nI j) = some (fAr (z.2 0 j), z) := by
  simp only [x_Program_isArithmetic_1, gin_n hj (by decide : 24 < 2 ^ 31), cl_n (show j < 2 ^ 31 by omega), gib_0, gib_1, fAr]
  (repeat' split) <;> rfl
theorem fAd_R8 {d : Nat → Int32} {r : Int32} (h : R8 r) : fAd d r = if d r.toNatClampNeg = 0 then 0 else 1 := by
  simp only [fAd, if_neg (R8_pos h)]
theorem x_belongs_s {z : ST} {d : Nat → Int32} {j : Nat} (hj : j < 24) (hm : MB (z.1 2) d) (ho : okI (z.2 0 j) (z.2 1 j) (z.2 2 j) (z.2 3 j)) : x_Program_belongsToAddresses_1 z (nI j) = some (if fBel (z.2 0 j) (z.2 1 j) (z.2 2 j) d = 0 then 1 else 0, z) := by
  obtain ⟨ha, ho⟩ := ho
  simp only [x_Program_belongsToAddresses_1, x_isBranch_s hj, obn_s, gin_n hj (by decide : 24 < 2 ^ 31), cl_n (show j < 2 ^ 31 by omega), gib_0, gib_1, x_isAddr_s hm (Or.inr ha), fAd_R8 ha, fBel, fBr]
  rcases ho with hk | hk | ⟨hk | hk | hk, hb, hc⟩ | ⟨hk | hk, hb⟩ | ⟨hk | hk, hb, -⟩
  all_goals simp (decide := true) only [hk, if_true, if_false, true_or, or_true, or_false, false_or]
  all_goals try simp only [x_isAddr_s hm (Or.inr hb), fAd_R8 hb, obn_s]
  all_goals (repeat' split) <;> first | rfl | contradiction | (simp_all; done)
theorem x_firstRead_s {z : ST} {j : Nat} (hj : j < 24) (ho : okI (z.2 0 j) (z.2 1 j) (z.2 2 j) (z.2 3 j)) : x_Program_firstRead_1 z (nI j) = some (fR1 (z.2 0 j) (z.2 1 j) (z.2 2 j), z) := by
  obtain ⟨ha, ho⟩ := ho
  simp only [x_Program_firstRead_1, x_Program_firstRead_1_34, x_isArith_s hj, x_isBranch_s hj, obn_s, gin_n hj (by decide : 24 < 2 ^ 31), cl_n (show j < 2 ^ 31 by omega), fR1, fAr, fBr]
  rcases ho with hk | hk | ⟨hk | hk | hk, hb, hc⟩ | ⟨hk | hk, hb⟩ | ⟨hk | hk, hb, -⟩
  all_goals simp (decide := true) only [hk, if_true, if_false, true_or, or_true, or_false, false_or]
theorem x_secondRead_s {z : ST} {j : Nat} (hj : j < 24) (ho : okI (z.2 0 j) (z.2 1 j) (z.2 2 j) (z.2 3 j)) : x_Program_secondRead_1 z (nI j) = some (fR2 (z.2 0 j) (z.2 2 j) (z.2 3 j), z) := by
  obtain ⟨ha, ho⟩ := ho
  simp only [x_Program_secondRead_1, x_isArith_s hj, x_isBranch_s hj, obn_s, gin_n hj (by decide : 24 < 2 ^ 31), cl_n (show j < 2 ^ 31 by omega), fR2, fAr, fBr]
  rcases ho with hk | hk | ⟨hk | hk | hk, hb, hc⟩ | ⟨hk | hk, hb⟩ | ⟨hk | hk, hb, -⟩
  all_goals simp (decide := true) only [hk, if_true, if_false, true_or, or_true, or_false, false_or]
