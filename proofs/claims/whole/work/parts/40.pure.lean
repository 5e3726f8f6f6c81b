-- pure rows: how the words of a pure text are read
theorem obn_s {r : Int32} {z : ST} {f : Int32 → ST → OR} : obn (some (r, z)) f = f r z := rfl
theorem bnd_s {z : ST} {f : ST → OR} : bnd z f = f z := rfl
theorem gib_0 {x : OR} : gib 0 x = x := rfl
theorem gib_1 {x : OR} : gib 1 x = x := rfl
theorem inR_n {j n : Nat} (h : j < n) (hn : n < 2 ^ 31) : inR (nI j) n = true := by
  unfold inR
  rw [nI_toInt (by omega)]
  exact decide_eq_true ⟨by omega, by omega⟩
theorem gin_n {j n : Nat} {x : OR} (h : j < n) (hn : n < 2 ^ 31) : gin (nI j) n x = x := by
  unfold gin
  rw [if_pos (inR_n h hn)]
theorem cl_n {j : Nat} (h : j < 2 ^ 31) : (nI j).toNatClampNeg = j := nI_clamp h
theorem oln_s {r : Int32} {z : ST} {f : Int32 → ST → OL} : oln (some (r, z)) f = f r z := rfl
theorem gil_n {j n : Nat} {x : OL} (h : j < n) (hn : n < 2 ^ 31) : gil (nI j) n x = x := by
  unfold gil
  rw [if_pos (inR_n h hn)]
-- reading a state behind a write
theorem s1_e {z : ST} {k : Nat} {v : Int32} : (stI z k v).1 k = v := by simp [stI, upd]
theorem s1_n {z : ST} {k j : Nat} {v : Int32} (h : j ≠ k) : (stI z k v).1 j = z.1 j := by simp [stI, upd, h]
theorem s1_2 {z : ST} {k : Nat} {v : Int32} : (stI z k v).2 = z.2 := rfl
theorem s2_e {z : ST} {k : Nat} {g : Nat → Int32} : (stA z k g).2 k = g := by simp [stA]
theorem s2_n {z : ST} {k j : Nat} {g : Nat → Int32} (h : j ≠ k) : (stA z k g).2 j = z.2 j := by simp [stA, h]
theorem s2_1 {z : ST} {k : Nat} {g : Nat → Int32} : (stA z k g).1 = z.1 := rfl
-- an instruction that add takes
def R8 (a : Int32) : Prop := ∃ i : Nat, i < 8 ∧ a = nI i
def okI (k a b c : Int32) : Prop := R8 a ∧ ((k = 0) ∨ (k = 8) ∨ ((k = 1 ∨ k = 2 ∨ k = 3) ∧ R8 b ∧ R8 c) ∨ ((k = 4 ∨ k = 5) ∧ R8 b) ∨ ((k = 6 ∨ k = 7) ∧ R8 b ∧ ∃ i : Nat, i ≤ 24 ∧ c = nI i))
-- what the slices make of an instruction; d: which registers are address registers (0: not)
def fBel (k a b : Int32) (d : Nat → Int32) : Int32 := if k = 5 then 0 else if k = 6 ∨ k = 7 then (if d a.toNatClampNeg = 0 then 1 else if d b.toNatClampNeg = 0 then 1 else 0) else if k = 8 then 1 else if d a.toNatClampNeg = 0 then 1 else 0
def fR1 (k a b : Int32) : Int32 := if k = 1 ∨ k = 2 ∨ k = 3 then b else if k = 6 ∨ k = 7 ∨ k = 8 then a else -1
def fR2 (k b c : Int32) : Int32 := if k = 1 ∨ k = 2 ∨ k = 3 then c else if k = 6 ∨ k = 7 then b else -1
def fAd (d : Nat → Int32) (r : Int32) : Int32 := if r < 0 then 0 else if d r.toNatClampNeg = 0 then 0 else 1
def fTwo (d : Nat → Int32) (r1 r2 : Int32) : Int32 := if fAd d r2 = 0 then 0 else if fAd d r1 = 0 then 1 else if r2 = r1 then 0 else 1
def fH0 (d : Nat → Int32) (r1 r2 : Int32) : Int32 := if fAd d r1 = 0 then (if fTwo d r1 r2 = 0 then -1 else r2) else r1
def fH1 (d : Nat → Int32) (r1 r2 : Int32) : Int32 := if fAd d r1 = 0 then -1 else if fTwo d r1 r2 = 0 then -1 else r2
def fHm (d : Nat → Int32) (r1 r2 : Int32) : Int32 := if fAd d r1 = 0 then (if fTwo d r1 r2 = 0 then 0 else 1) else (if fTwo d r1 r2 = 0 then 1 else 2)
def fBr (k : Int32) : Int32 := if k = 6 then 1 else if k = 7 then 1 else 0
def fN0 (k a b c : Int32) (d : Nat → Int32) : Int32 := if fBr k = 0 then (if fBel k a b d = 1 then (if k = 4 then 0 else if fHm d (fR1 k a b) (fR2 k b c) = 0 then 1 else 0) else 0) else 0
def fN1 (k a b : Int32) (d : Nat → Int32) : Int32 := if fBr k = 0 then (if fBel k a b d = 0 then (if k = 5 then (if d a.toNatClampNeg = 0 then 0 else 1) else 1) else 0) else 0
theorem R8_cl {a : Int32} (h : R8 a) : ∃ i : Nat, i < 8 ∧ a = nI i ∧ a.toNatClampNeg = i ∧ inR a 8 = true ∧ ¬ a < 0 ∧ ¬ a = -1 := by
  obtain ⟨i, hi, rfl⟩ := h
  refine ⟨i, hi, rfl, nI_clamp (by omega), inR_n hi (by decide), nI_pos (by omega), ?_⟩
  intro h
  have h1 := nI_pos (n := i) (by omega)
  rw [h] at h1
  exact h1 (by decide)
theorem m_isBranch_s {t : ST} {j : Nat} (hj : j < 24) : m_isBranch t (nI j) = some (fBr (t.2 0 j), t) := by
  simp only [m_isBranch, gin_n hj (by decide : 24 < 2 ^ 31), cl_n (show j < 2 ^ 31 by omega), gib_0, gib_1, fBr]
  split
  · rfl
  · split <;> rfl
theorem gin_r {i : Int32} {n : Nat} {x : OR} (h : inR i n = true) : gin i n x = x := by
  unfold gin
  rw [if_pos h]
theorem m_belongs_s {t : ST} {j : Nat} (hj : j < 24) (ho : okI (t.2 0 j) (t.2 1 j) (t.2 2 j) (t.2 3 j)) : m_belongs t (nI j) = some (fBel (t.2 0 j) (t.2 1 j) (t.2 2 j) (t.2 4), t) := by
  obtain ⟨ha, ho⟩ := ho
  obtain ⟨ia, -, -, -, hai, -⟩ := R8_cl ha
  simp only [m_belongs, m_belongs_26, gin_n hj (by decide : 24 < 2 ^ 31), cl_n (show j < 2 ^ 31 by omega), gin_r hai, fBel]
  rcases ho with hk | hk | ⟨hk | hk | hk, hb, hc⟩ | ⟨hk | hk, hb⟩ | ⟨hk | hk, hb, -⟩
  all_goals simp (decide := true) only [hk, if_true, if_false, true_or, or_true, or_false, false_or]
  all_goals first | rfl | (split <;> rfl) | (obtain ⟨ib, -, -, -, hbi, -⟩ := R8_cl hb; simp only [gin_r hbi]; (repeat' split) <;> rfl)
theorem m_reckons_s (t : ST) (k : Int32) : m_reckons t k = some (if k ≤ 0 then 0 else if 4 ≤ k then 0 else 1, t) := by
  simp only [m_reckons, gib_0, gib_1]
  (repeat' split) <;> rfl
theorem m_reads0_s {t : ST} {j : Nat} (hj : j < 24) (ho : okI (t.2 0 j) (t.2 1 j) (t.2 2 j) (t.2 3 j)) : m_reads t (nI j) 0 = some (fR1 (t.2 0 j) (t.2 1 j) (t.2 2 j), t) := by
  obtain ⟨ha, ho⟩ := ho
  simp only [m_reads, m_reads_46, m_reckons_s, obn_s, gin_n hj (by decide : 24 < 2 ^ 31), cl_n (show j < 2 ^ 31 by omega), fR1]
  rcases ho with hk | hk | ⟨hk | hk | hk, hb, hc⟩ | ⟨hk | hk, hb⟩ | ⟨hk | hk, hb, -⟩
  all_goals simp (decide := true) only [hk, if_true, if_false, true_or, or_true, or_false, false_or]
theorem m_reads1_s {t : ST} {j : Nat} (hj : j < 24) (ho : okI (t.2 0 j) (t.2 1 j) (t.2 2 j) (t.2 3 j)) : m_reads t (nI j) 1 = some (fR2 (t.2 0 j) (t.2 2 j) (t.2 3 j), t) := by
  obtain ⟨ha, ho⟩ := ho
  simp only [m_reads, m_reads_46, m_reckons_s, obn_s, gin_n hj (by decide : 24 < 2 ^ 31), cl_n (show j < 2 ^ 31 by omega), fR2]
  rcases ho with hk | hk | ⟨hk | hk | hk, hb, hc⟩ | ⟨hk | hk, hb⟩ | ⟨hk | hk, hb, -⟩
  all_goals simp (decide := true) only [hk, if_true, if_false, true_or, or_true, or_false, false_or]
/-- what is read is a register, or nothing -/
theorem okI_r {k a b c : Int32} (ho : okI k a b c) : (fR1 k a b = -1 ∨ R8 (fR1 k a b)) ∧ (fR2 k b c = -1 ∨ R8 (fR2 k b c)) := by
  obtain ⟨ha, ho⟩ := ho
  rcases ho with hk | hk | ⟨hk | hk | hk, hb, hc⟩ | ⟨hk | hk, hb⟩ | ⟨hk | hk, hb, -⟩
  all_goals simp (decide := true) only [fR1, fR2, hk, if_true, if_false, true_or, or_true, or_false, false_or]
  all_goals first | exact ⟨trivial, trivial⟩ | exact ⟨Or.inl rfl, Or.inl rfl⟩ | exact ⟨Or.inr ha, Or.inl rfl⟩ | exact ⟨Or.inr hb, Or.inr hc⟩ | exact ⟨Or.inr ha, Or.inr hb⟩ | (simp only [true_and, and_true]; first | assumption | exact ⟨hb, hc⟩ | exact ⟨ha, hb⟩ | exact Or.inr ha)
theorem m_handed_s {t : ST} {j : Nat} (hj : j < 24) (ho : okI (t.2 0 j) (t.2 1 j) (t.2 2 j) (t.2 3 j)) (q : Int32) : m_handed t (nI j) q = some (if q = 0 then fH0 (t.2 4) (fR1 (t.2 0 j) (t.2 1 j) (t.2 2 j)) (fR2 (t.2 0 j) (t.2 2 j) (t.2 3 j)) else fH1 (t.2 4) (fR1 (t.2 0 j) (t.2 1 j) (t.2 2 j)) (fR2 (t.2 0 j) (t.2 2 j) (t.2 3 j)), t) := by
  simp only [m_handed, m_handed_66, m_handed_65, m_handed_61, m_handed_33, m_handed_32, m_reads0_s hj ho, m_reads1_s hj ho, obn_s]
  obtain ⟨h1, h2⟩ := okI_r ho
  generalize fR1 (t.2 0 j) (t.2 1 j) (t.2 2 j) = r1 at h1 ⊢
  generalize fR2 (t.2 0 j) (t.2 2 j) (t.2 3 j) = r2 at h2 ⊢
  simp only [fH0, fH1, fTwo, fAd]
  rcases h1 with rfl | h1
  · rcases h2 with rfl | h2
    · simp (decide := true) only [if_true, if_false]
      (repeat' split) <;> first | rfl | contradiction
    · obtain ⟨i2, -, -, -, hi2, hn2, hm2⟩ := R8_cl h2
      simp (decide := true) only [if_true, if_false, hn2, gin_r hi2]
      (repeat' split) <;> first | rfl | contradiction
  · obtain ⟨i1, -, -, -, hi1, hn1, hm1⟩ := R8_cl h1
    rcases h2 with rfl | h2
    · simp (decide := true) only [if_true, if_false, hn1, gin_r hi1]
      (repeat' split) <;> first | rfl | contradiction
    · obtain ⟨i2, -, -, -, hi2, hn2, hm2⟩ := R8_cl h2
      simp (decide := true) only [if_true, if_false, hn1, gin_r hi1, hn2, gin_r hi2]
      (repeat' split) <;> first | rfl | contradiction
