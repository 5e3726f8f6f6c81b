-- add
def bR (v : Int32) : Int32 := if v < 0 then 0 else if 8 ≤ v then 0 else 1
def bC (v : Int32) : Int32 := if v < 0 then 0 else if 24 < v then 0 else 1
theorem bR_01 (v : Int32) : bR v = 0 ∨ (bR v = 1 ∧ R8 v) := by
  unfold bR
  by_cases q : v < 0
  · left; rw [if_pos q]
  · rw [if_neg q]
    by_cases p : 8 ≤ v
    · left; rw [if_pos p]
    · right
      rw [if_neg p]
      obtain ⟨j, hj, rfl⟩ := nI_of q
      exact ⟨rfl, j, Nat.lt_of_not_le (fun le => p (nI_le (a := 8) le hj)), rfl⟩
theorem bC_01 (v : Int32) : ((v < 0 ∨ 24 < v) ∧ bC v = 0) ∨ (¬ v < 0 ∧ ¬ 24 < v ∧ ∃ i : Nat, i ≤ 24 ∧ v = nI i) := by
  unfold bC
  by_cases q : v < 0
  · left; rw [if_pos q]; exact ⟨Or.inl q, rfl⟩
  · rw [if_neg q]
    by_cases p : 24 < v
    · left; rw [if_pos p]; exact ⟨Or.inr p, rfl⟩
    · right
      obtain ⟨j, hj, rfl⟩ := nI_of q
      exact ⟨q, p, j, Nat.le_of_not_lt (fun lt => p (nI_lt (a := 24) lt hj)), rfl⟩
theorem x_reg (z : ST) (v : Int32) : x_isRegister z v = some (bR v, z) := by
  simp only [x_isRegister, bR, gib_0, gib_1]
  by_cases q : v < 0
  · rw [if_pos q, if_pos q]
  · rw [if_neg q, if_neg q]
    by_cases p : 8 ≤ v
    · rw [if_pos p, if_pos p]
    · rw [if_neg p, if_neg p]
theorem m_reg (t : ST) (v : Int32) : m_isRegister t v = some (bR v, t) := by
  simp only [m_isRegister, bR, gib_0, gib_1]
  by_cases q : v < 0
  · rw [if_pos q, if_pos q]
  · rw [if_neg q, if_neg q]
    by_cases p : 8 ≤ v
    · rw [if_pos p, if_pos p]
    · rw [if_neg p, if_neg p]
theorem add_s {N : Nat} {z t : ST} (k a b c : Int32) (hN : N < 24) (h0 : t.1 0 = nI N) : (x_Program_isSound z k a b c = some (0, z) ∧ m_add t k a b c = some (-1, t)) ∨ (okI k a b c ∧ x_Program_isSound z k a b c = some (1, z) ∧ m_add t k a b c = m_add_114 t k a b c 1 1) := by
  have n24 : ¬ (24 : Int32) ≤ t.1 0 := by
    rw [h0]
    exact nI_ge (b := 24) hN (by omega)
  have bad : (k < 0 ∨ 9 ≤ k) → x_Program_isSound z k a b c = some (0, z) := by
    intro q
    have k0 : ¬ k = 0 := by
      intro e
      rw [e] at q
      revert q
      decide
    have k1 : ¬ k = 1 := by
      intro e
      rw [e] at q
      revert q
      decide
    have k2 : ¬ k = 2 := by
      intro e
      rw [e] at q
      revert q
      decide
    have k3 : ¬ k = 3 := by
      intro e
      rw [e] at q
      revert q
      decide
    have k4 : ¬ k = 4 := by
      intro e
      rw [e] at q
      revert q
      decide
    have k5 : ¬ k = 5 := by
      intro e
      rw [e] at q
      revert q
      decide
    have k6 : ¬ k = 6 := by
      intro e
      rw [e] at q
      revert q
      decide
    have k7 : ¬ k = 7 := by
      intro e
      rw [e] at q
      revert q
      decide
    have k8 : ¬ k = 8 := by
      intro e
      rw [e] at q
      revert q
      decide
    simp only [x_Program_isSound, if_neg k0, if_neg k1, if_neg k2, if_neg k3, if_neg k4, if_neg k5, if_neg k6, if_neg k7, if_neg k8, gib_0]
  by_cases kneg : k < 0
  · left
    refine ⟨bad (Or.inl kneg), ?_⟩
    simp only [m_add, if_neg n24, if_pos kneg, m_add_30, m_add_31, m_add_59, m_add_60, m_add_113, m_add_114, if_true]
  · by_cases k9 : 9 ≤ k
    · left
      refine ⟨bad (Or.inr k9), ?_⟩
      simp only [m_add, if_neg n24, if_neg kneg, if_pos k9, m_add_30, m_add_31, m_add_59, m_add_60, m_add_113, m_add_114, if_true]
    · clear bad
      obtain ⟨j, hj, hk⟩ := nI_of kneg
      have hj8 : j < 9 := Nat.lt_of_not_le (fun le => k9 (by rw [hk]; exact nI_le (a := 9) le hj))
      have n10 : ¬ (1 : Int32) = 0 := by decide
      rcases (show j = 0 ∨ j = 1 ∨ j = 2 ∨ j = 3 ∨ j = 4 ∨ j = 5 ∨ j = 6 ∨ j = 7 ∨ j = 8 by omega) with e | e | e | e | e | e | e | e | e
      · have hk0 : k = 0 := by rw [hk, e]; decide
        subst hk0
        clear hk
        rcases bR_01 a with ha | ⟨ha, ga⟩
        · left
          constructor
          · simp (decide := true) only [x_Program_isSound, x_Program_isSound_52, x_Program_isSound_57, x_Program_isSound_84, x_Program_isSound_104, x_reg, obn_s, gib_0, gib_1, if_true, if_false, ha]
          · simp (decide := true) only [m_add, m_add_30, m_add_31, m_add_55, m_add_59, m_add_60, m_add_85, m_add_97, m_add_109, m_add_113, m_reg, obn_s, if_true, if_false, if_neg n24, m_add_114, ha]
        · skip
          right
          refine ⟨⟨ga, Or.inl rfl⟩, ?_, ?_⟩
          · simp (decide := true) only [x_Program_isSound, x_Program_isSound_52, x_Program_isSound_57, x_Program_isSound_84, x_Program_isSound_104, x_reg, obn_s, gib_0, gib_1, if_true, if_false, ha]
          · simp (decide := true) only [m_add, m_add_30, m_add_31, m_add_55, m_add_59, m_add_60, m_add_85, m_add_97, m_add_109, m_add_113, m_reg, obn_s, if_true, if_false, if_neg n24, ha]
      · have hk1 : k = 1 := by rw [hk, e]; decide
        subst hk1
        clear hk
        rcases bR_01 a with ha | ⟨ha, ga⟩
        · left
          constructor
          · simp (decide := true) only [x_Program_isSound, x_Program_isSound_52, x_Program_isSound_57, x_Program_isSound_84, x_Program_isSound_104, x_reg, obn_s, gib_0, gib_1, if_true, if_false, ha]
          · simp (decide := true) only [m_add, m_add_30, m_add_31, m_add_55, m_add_59, m_add_60, m_add_85, m_add_97, m_add_109, m_add_113, m_reg, obn_s, if_true, if_false, if_neg n24, m_add_114, ha]
        · skip
          rcases bR_01 b with hb | ⟨hb, gb⟩
          · left
            constructor
            · simp (decide := true) only [x_Program_isSound, x_Program_isSound_52, x_Program_isSound_57, x_Program_isSound_84, x_Program_isSound_104, x_reg, obn_s, gib_0, gib_1, if_true, if_false, ha, hb]
            · simp (decide := true) only [m_add, m_add_30, m_add_31, m_add_55, m_add_59, m_add_60, m_add_85, m_add_97, m_add_109, m_add_113, m_reg, obn_s, if_true, if_false, if_neg n24, m_add_114, ha, hb]
          · skip
            rcases bR_01 c with hc | ⟨hc, gc⟩
            · left
              constructor
              · simp (decide := true) only [x_Program_isSound, x_Program_isSound_52, x_Program_isSound_57, x_Program_isSound_84, x_Program_isSound_104, x_reg, obn_s, gib_0, gib_1, if_true, if_false, ha, hb, hc]
              · simp (decide := true) only [m_add, m_add_30, m_add_31, m_add_55, m_add_59, m_add_60, m_add_85, m_add_97, m_add_109, m_add_113, m_reg, obn_s, if_true, if_false, if_neg n24, m_add_114, ha, hb, hc]
            · skip
              right
              refine ⟨⟨ga, Or.inr (Or.inr (Or.inl ⟨by decide, gb, gc⟩))⟩, ?_, ?_⟩
              · simp (decide := true) only [x_Program_isSound, x_Program_isSound_52, x_Program_isSound_57, x_Program_isSound_84, x_Program_isSound_104, x_reg, obn_s, gib_0, gib_1, if_true, if_false, ha, hb, hc]
              · simp (decide := true) only [m_add, m_add_30, m_add_31, m_add_55, m_add_59, m_add_60, m_add_85, m_add_97, m_add_109, m_add_113, m_reg, obn_s, if_true, if_false, if_neg n24, ha, hb, hc]
      · have hk2 : k = 2 := by rw [hk, e]; decide
        subst hk2
        clear hk
        rcases bR_01 a with ha | ⟨ha, ga⟩
        · left
          constructor
          · simp (decide := true) only [x_Program_isSound, x_Program_isSound_52, x_Program_isSound_57, x_Program_isSound_84, x_Program_isSound_104, x_reg, obn_s, gib_0, gib_1, if_true, if_false, ha]
          · simp (decide := true) only [m_add, m_add_30, m_add_31, m_add_55, m_add_59, m_add_60, m_add_85, m_add_97, m_add_109, m_add_113, m_reg, obn_s, if_true, if_false, if_neg n24, m_add_114, ha]
        · skip
          rcases bR_01 b with hb | ⟨hb, gb⟩
          · left
            constructor
            · simp (decide := true) only [x_Program_isSound, x_Program_isSound_52, x_Program_isSound_57, x_Program_isSound_84, x_Program_isSound_104, x_reg, obn_s, gib_0, gib_1, if_true, if_false, ha, hb]
            · simp (decide := true) only [m_add, m_add_30, m_add_31, m_add_55, m_add_59, m_add_60, m_add_85, m_add_97, m_add_109, m_add_113, m_reg, obn_s, if_true, if_false, if_neg n24, m_add_114, ha, hb]
          · skip
            rcases bR_01 c with hc | ⟨hc, gc⟩
            · left
              constructor
              · simp (decide := true) only [x_Program_isSound, x_Program_isSound_52, x_Program_isSound_57, x_Program_isSound_84, x_Program_isSound_104, x_reg, obn_s, gib_0, gib_1, if_true, if_false, ha, hb, hc]
              · simp (decide := true) only [m_add, m_add_30, m_add_31, m_add_55, m_add_59, m_add_60, m_add_85, m_add_97, m_add_109, m_add_113, m_reg, obn_s, if_true, if_false, if_neg n24, m_add_114, ha, hb, hc]
            · skip
              right
              refine ⟨⟨ga, Or.inr (Or.inr (Or.inl ⟨by decide, gb, gc⟩))⟩, ?_, ?_⟩
              · simp (decide := true) only [x_Program_isSound, x_Program_isSound_52, x_Program_isSound_57, x_Program_isSound_84, x_Program_isSound_104, x_reg, obn_s, gib_0, gib_1, if_true, if_false, ha, hb, hc]
              · simp (decide := true) only [m_add, m_add_30, m_add_31, m_add_55, m_add_59, m_add_60, m_add_85, m_add_97, m_add_109, m_add_113, m_reg, obn_s, if_true, if_false, if_neg n24, ha, hb, hc]
      · have hk3 : k = 3 := by rw [hk, e]; decide
        subst hk3
        clear hk
        rcases bR_01 a with ha | ⟨ha, ga⟩
        · left
          constructor
          · simp (decide := true) only [x_Program_isSound, x_Program_isSound_52, x_Program_isSound_57, x_Program_isSound_84, x_Program_isSound_104, x_reg, obn_s, gib_0, gib_1, if_true, if_false, ha]
          · simp (decide := true) only [m_add, m_add_30, m_add_31, m_add_55, m_add_59, m_add_60, m_add_85, m_add_97, m_add_109, m_add_113, m_reg, obn_s, if_true, if_false, if_neg n24, m_add_114, ha]
        · skip
          rcases bR_01 b with hb | ⟨hb, gb⟩
          · left
            constructor
            · simp (decide := true) only [x_Program_isSound, x_Program_isSound_52, x_Program_isSound_57, x_Program_isSound_84, x_Program_isSound_104, x_reg, obn_s, gib_0, gib_1, if_true, if_false, ha, hb]
            · simp (decide := true) only [m_add, m_add_30, m_add_31, m_add_55, m_add_59, m_add_60, m_add_85, m_add_97, m_add_109, m_add_113, m_reg, obn_s, if_true, if_false, if_neg n24, m_add_114, ha, hb]
          · skip
            rcases bR_01 c with hc | ⟨hc, gc⟩
            · left
              constructor
              · simp (decide := true) only [x_Program_isSound, x_Program_isSound_52, x_Program_isSound_57, x_Program_isSound_84, x_Program_isSound_104, x_reg, obn_s, gib_0, gib_1, if_true, if_false, ha, hb, hc]
              · simp (decide := true) only [m_add, m_add_30, m_add_31, m_add_55, m_add_59, m_add_60, m_add_85, m_add_97, m_add_109, m_add_113, m_reg, obn_s, if_true, if_false, if_neg n24, m_add_114, ha, hb, hc]
            · skip
              right
              refine ⟨⟨ga, Or.inr (Or.inr (Or.inl ⟨by decide, gb, gc⟩))⟩, ?_, ?_⟩
              · simp (decide := true) only [x_Program_isSound, x_Program_isSound_52, x_Program_isSound_57, x_Program_isSound_84, x_Program_isSound_104, x_reg, obn_s, gib_0, gib_1, if_true, if_false, ha, hb, hc]
              · simp (decide := true) only [m_add, m_add_30, m_add_31, m_add_55, m_add_59, m_add_60, m_add_85, m_add_97, m_add_109, m_add_113, m_reg, obn_s, if_true, if_false, if_neg n24, ha, hb, hc]
      · have hk4 : k = 4 := by rw [hk, e]; decide
        subst hk4
        clear hk
        rcases bR_01 a with ha | ⟨ha, ga⟩
        · left
          constructor
          · simp (decide := true) only [x_Program_isSound, x_Program_isSound_52, x_Program_isSound_57, x_Program_isSound_84, x_Program_isSound_104, x_reg, obn_s, gib_0, gib_1, if_true, if_false, ha]
          · simp (decide := true) only [m_add, m_add_30, m_add_31, m_add_55, m_add_59, m_add_60, m_add_85, m_add_97, m_add_109, m_add_113, m_reg, obn_s, if_true, if_false, if_neg n24, m_add_114, ha]
        · skip
          rcases bR_01 b with hb | ⟨hb, gb⟩
          · left
            constructor
            · simp (decide := true) only [x_Program_isSound, x_Program_isSound_52, x_Program_isSound_57, x_Program_isSound_84, x_Program_isSound_104, x_reg, obn_s, gib_0, gib_1, if_true, if_false, ha, hb]
            · simp (decide := true) only [m_add, m_add_30, m_add_31, m_add_55, m_add_59, m_add_60, m_add_85, m_add_97, m_add_109, m_add_113, m_reg, obn_s, if_true, if_false, if_neg n24, m_add_114, ha, hb]
          · skip
            right
            refine ⟨⟨ga, Or.inr (Or.inr (Or.inr (Or.inl ⟨by decide, gb⟩)))⟩, ?_, ?_⟩
            · simp (decide := true) only [x_Program_isSound, x_Program_isSound_52, x_Program_isSound_57, x_Program_isSound_84, x_Program_isSound_104, x_reg, obn_s, gib_0, gib_1, if_true, if_false, ha, hb]
            · simp (decide := true) only [m_add, m_add_30, m_add_31, m_add_55, m_add_59, m_add_60, m_add_85, m_add_97, m_add_109, m_add_113, m_reg, obn_s, if_true, if_false, if_neg n24, ha, hb]
      · have hk5 : k = 5 := by rw [hk, e]; decide
        subst hk5
        clear hk
        rcases bR_01 a with ha | ⟨ha, ga⟩
        · left
          constructor
          · simp (decide := true) only [x_Program_isSound, x_Program_isSound_52, x_Program_isSound_57, x_Program_isSound_84, x_Program_isSound_104, x_reg, obn_s, gib_0, gib_1, if_true, if_false, ha]
          · simp (decide := true) only [m_add, m_add_30, m_add_31, m_add_55, m_add_59, m_add_60, m_add_85, m_add_97, m_add_109, m_add_113, m_reg, obn_s, if_true, if_false, if_neg n24, m_add_114, ha]
        · skip
          rcases bR_01 b with hb | ⟨hb, gb⟩
          · left
            constructor
            · simp (decide := true) only [x_Program_isSound, x_Program_isSound_52, x_Program_isSound_57, x_Program_isSound_84, x_Program_isSound_104, x_reg, obn_s, gib_0, gib_1, if_true, if_false, ha, hb]
            · simp (decide := true) only [m_add, m_add_30, m_add_31, m_add_55, m_add_59, m_add_60, m_add_85, m_add_97, m_add_109, m_add_113, m_reg, obn_s, if_true, if_false, if_neg n24, m_add_114, ha, hb]
          · skip
            right
            refine ⟨⟨ga, Or.inr (Or.inr (Or.inr (Or.inl ⟨by decide, gb⟩)))⟩, ?_, ?_⟩
            · simp (decide := true) only [x_Program_isSound, x_Program_isSound_52, x_Program_isSound_57, x_Program_isSound_84, x_Program_isSound_104, x_reg, obn_s, gib_0, gib_1, if_true, if_false, ha, hb]
            · simp (decide := true) only [m_add, m_add_30, m_add_31, m_add_55, m_add_59, m_add_60, m_add_85, m_add_97, m_add_109, m_add_113, m_reg, obn_s, if_true, if_false, if_neg n24, ha, hb]
      · have hk6 : k = 6 := by rw [hk, e]; decide
        subst hk6
        clear hk
        rcases bR_01 a with ha | ⟨ha, ga⟩
        · left
          constructor
          · simp (decide := true) only [x_Program_isSound, x_Program_isSound_52, x_Program_isSound_57, x_Program_isSound_84, x_Program_isSound_104, x_reg, obn_s, gib_0, gib_1, if_true, if_false, ha]
          · simp (decide := true) only [m_add, m_add_30, m_add_31, m_add_55, m_add_59, m_add_60, m_add_85, m_add_97, m_add_109, m_add_113, m_reg, obn_s, if_true, if_false, if_neg n24, m_add_114, ha]
        · skip
          rcases bR_01 b with hb | ⟨hb, gb⟩
          · left
            constructor
            · simp (decide := true) only [x_Program_isSound, x_Program_isSound_52, x_Program_isSound_57, x_Program_isSound_84, x_Program_isSound_104, x_reg, obn_s, gib_0, gib_1, if_true, if_false, ha, hb]
            · simp (decide := true) only [m_add, m_add_30, m_add_31, m_add_55, m_add_59, m_add_60, m_add_85, m_add_97, m_add_109, m_add_113, m_reg, obn_s, if_true, if_false, if_neg n24, m_add_114, ha, hb]
          · skip
            rcases bC_01 c with ⟨hc | hc, -⟩ | ⟨c1, c2, c3⟩
            · left
              constructor
              · simp (decide := true) only [x_Program_isSound, x_Program_isSound_52, x_Program_isSound_57, x_Program_isSound_84, x_Program_isSound_104, x_reg, obn_s, gib_0, gib_1, if_true, if_false, ha, hb, if_pos hc]
              · simp (decide := true) only [m_add, m_add_30, m_add_31, m_add_55, m_add_59, m_add_60, m_add_85, m_add_97, m_add_109, m_add_113, m_reg, obn_s, if_true, if_false, if_neg n24, m_add_114, ha, hb, if_pos hc]
            · have nn : ¬ c < 0 := by
                intro q
                rw [Int32.lt_iff_toInt_lt] at q hc
                rw [show (0 : Int32).toInt = 0 by decide] at q
                rw [show (24 : Int32).toInt = 24 by decide] at hc
                omega
              left
              constructor
              · simp (decide := true) only [x_Program_isSound, x_Program_isSound_52, x_Program_isSound_57, x_Program_isSound_84, x_Program_isSound_104, x_reg, obn_s, gib_0, gib_1, if_true, if_false, ha, hb, if_neg nn, if_pos hc]
              · simp (decide := true) only [m_add, m_add_30, m_add_31, m_add_55, m_add_59, m_add_60, m_add_85, m_add_97, m_add_109, m_add_113, m_reg, obn_s, if_true, if_false, if_neg n24, m_add_114, ha, hb, if_neg nn, if_pos hc]
            · skip
              right
              refine ⟨⟨ga, Or.inr (Or.inr (Or.inr (Or.inr ⟨by decide, gb, c3⟩)))⟩, ?_, ?_⟩
              · simp (decide := true) only [x_Program_isSound, x_Program_isSound_52, x_Program_isSound_57, x_Program_isSound_84, x_Program_isSound_104, x_reg, obn_s, gib_0, gib_1, if_true, if_false, ha, hb, if_neg c1, if_neg c2]
              · simp (decide := true) only [m_add, m_add_30, m_add_31, m_add_55, m_add_59, m_add_60, m_add_85, m_add_97, m_add_109, m_add_113, m_reg, obn_s, if_true, if_false, if_neg n24, ha, hb, if_neg c1, if_neg c2]
      · have hk7 : k = 7 := by rw [hk, e]; decide
        subst hk7
        clear hk
        rcases bR_01 a with ha | ⟨ha, ga⟩
        · left
          constructor
          · simp (decide := true) only [x_Program_isSound, x_Program_isSound_52, x_Program_isSound_57, x_Program_isSound_84, x_Program_isSound_104, x_reg, obn_s, gib_0, gib_1, if_true, if_false, ha]
          · simp (decide := true) only [m_add, m_add_30, m_add_31, m_add_55, m_add_59, m_add_60, m_add_85, m_add_97, m_add_109, m_add_113, m_reg, obn_s, if_true, if_false, if_neg n24, m_add_114, ha]
        · skip
          rcases bR_01 b with hb | ⟨hb, gb⟩
          · left
            constructor
            · simp (decide := true) only [x_Program_isSound, x_Program_isSound_52, x_Program_isSound_57, x_Program_isSound_84, x_Program_isSound_104, x_reg, obn_s, gib_0, gib_1, if_true, if_false, ha, hb]
            · simp (decide := true) only [m_add, m_add_30, m_add_31, m_add_55, m_add_59, m_add_60, m_add_85, m_add_97, m_add_109, m_add_113, m_reg, obn_s, if_true, if_false, if_neg n24, m_add_114, ha, hb]
          · skip
            rcases bC_01 c with ⟨hc | hc, -⟩ | ⟨c1, c2, c3⟩
            · left
              constructor
              · simp (decide := true) only [x_Program_isSound, x_Program_isSound_52, x_Program_isSound_57, x_Program_isSound_84, x_Program_isSound_104, x_reg, obn_s, gib_0, gib_1, if_true, if_false, ha, hb, if_pos hc]
              · simp (decide := true) only [m_add, m_add_30, m_add_31, m_add_55, m_add_59, m_add_60, m_add_85, m_add_97, m_add_109, m_add_113, m_reg, obn_s, if_true, if_false, if_neg n24, m_add_114, ha, hb, if_pos hc]
            · have nn : ¬ c < 0 := by
                intro q
                rw [Int32.lt_iff_toInt_lt] at q hc
                rw [show (0 : Int32).toInt = 0 by decide] at q
                rw [show (24 : Int32).toInt = 24 by decide] at hc
                omega
              left
              constructor
              · simp (decide := true) only [x_Program_isSound, x_Program_isSound_52, x_Program_isSound_57, x_Program_isSound_84, x_Program_isSound_104, x_reg, obn_s, gib_0, gib_1, if_true, if_false, ha, hb, if_neg nn, if_pos hc]
              · simp (decide := true) only [m_add, m_add_30, m_add_31, m_add_55, m_add_59, m_add_60, m_add_85, m_add_97, m_add_109, m_add_113, m_reg, obn_s, if_true, if_false, if_neg n24, m_add_114, ha, hb, if_neg nn, if_pos hc]
            · skip
              right
              refine ⟨⟨ga, Or.inr (Or.inr (Or.inr (Or.inr ⟨by decide, gb, c3⟩)))⟩, ?_, ?_⟩
              · simp (decide := true) only [x_Program_isSound, x_Program_isSound_52, x_Program_isSound_57, x_Program_isSound_84, x_Program_isSound_104, x_reg, obn_s, gib_0, gib_1, if_true, if_false, ha, hb, if_neg c1, if_neg c2]
              · simp (decide := true) only [m_add, m_add_30, m_add_31, m_add_55, m_add_59, m_add_60, m_add_85, m_add_97, m_add_109, m_add_113, m_reg, obn_s, if_true, if_false, if_neg n24, ha, hb, if_neg c1, if_neg c2]
      · have hk8 : k = 8 := by rw [hk, e]; decide
        subst hk8
        clear hk
        rcases bR_01 a with ha | ⟨ha, ga⟩
        · left
          constructor
          · simp (decide := true) only [x_Program_isSound, x_Program_isSound_52, x_Program_isSound_57, x_Program_isSound_84, x_Program_isSound_104, x_reg, obn_s, gib_0, gib_1, if_true, if_false, ha]
          · simp (decide := true) only [m_add, m_add_30, m_add_31, m_add_55, m_add_59, m_add_60, m_add_85, m_add_97, m_add_109, m_add_113, m_reg, obn_s, if_true, if_false, if_neg n24, m_add_114, ha]
        · skip
          right
          refine ⟨⟨ga, Or.inr (Or.inl rfl)⟩, ?_, ?_⟩
          · simp (decide := true) only [x_Program_isSound, x_Program_isSound_52, x_Program_isSound_57, x_Program_isSound_84, x_Program_isSound_104, x_reg, obn_s, gib_0, gib_1, if_true, if_false, ha]
          · simp (decide := true) only [m_add, m_add_30, m_add_31, m_add_55, m_add_59, m_add_60, m_add_85, m_add_97, m_add_109, m_add_113, m_reg, obn_s, if_true, if_false, if_neg n24, ha]
