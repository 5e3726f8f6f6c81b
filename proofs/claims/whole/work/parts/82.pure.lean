-- the class begins anew
theorem cpy32 {f g : Nat → Int32} {j : Nat} (hj : j < 32) : va_cpy f g (0 : Int32).toNatClampNeg (0 : Int32).toNatClampNeg (32 : Int32).toNatClampNeg j = f j := by
  rw [show (0 : Int32).toNatClampNeg = 0 by decide, show (32 : Int32).toNatClampNeg = 32 by decide, va_cpy, if_pos (by omega), Nat.zero_add, Nat.sub_zero]
theorem b_link (z : ST) : ∃ z', x_Link_begin_13_12 z = some (0, z') ∧ (∀ q, 3 ≤ q → q ≤ 14 → z'.1 q = 0) ∧ (∀ q, q < 3 ∨ 14 < q → z'.1 q = z.1 q) ∧ (∀ q, q ≠ 11 → z'.2 q = z.2 q) ∧ ∀ j, j < 32 → z'.2 11 j = z.2 10 j := by
  refine ⟨_, rfl, ?_, ?_, ?_, ?_⟩
  · intro q h1 h2
    rcases (show q = 3 ∨ q = 4 ∨ q = 5 ∨ q = 6 ∨ q = 7 ∨ q = 8 ∨ q = 9 ∨ q = 10 ∨ q = 11 ∨ q = 12 ∨ q = 13 ∨ q = 14 by omega) with e | e | e | e | e | e | e | e | e | e | e | e <;> (subst e; rfl)
  · intro q h
    simp only [stI, upd, stA, if_neg (show ¬ q = 3 by omega), if_neg (show ¬ q = 4 by omega), if_neg (show ¬ q = 5 by omega), if_neg (show ¬ q = 6 by omega), if_neg (show ¬ q = 7 by omega), if_neg (show ¬ q = 8 by omega), if_neg (show ¬ q = 9 by omega), if_neg (show ¬ q = 10 by omega), if_neg (show ¬ q = 11 by omega), if_neg (show ¬ q = 12 by omega), if_neg (show ¬ q = 13 by omega), if_neg (show ¬ q = 14 by omega)]
  · intro q h
    exact s2_n (z := z) h
  · intro j hj
    exact cpy32 hj
theorem b_addr {N : Nat} {z : ST} (hN : N ≤ 24) (h1 : z.1 1 = nI N) : ∃ z', x_AddressStream_begin_29 z = some (0, z') ∧ z'.1 15 = nI (advN (z.2 8) N 24 0) ∧ z'.1 16 = nI (advN (z.2 8) N 24 0) ∧ z'.1 17 = 0 ∧ (∀ q, q < 15 ∨ 17 < q → z'.1 q = z.1 q) ∧ (∀ q, q ≠ 20 → z'.2 q = z.2 q) ∧ ∀ j, j < 8 → z'.2 20 j = 0 := by
  obtain ⟨z2, f1, f2, f3⟩ := fil30 (stI z 17 0)
  obtain ⟨z', o1, o2, o3, o4, o5⟩ := ov29 hN 24 0 (stI (stI z2 16 0) 15 0) (by omega) (by
    rw [s1_n (by decide), s1_n (by decide), f2.1, s1_n (by decide), h1]) (by rw [s1_e, nI_0])
  have e8 : (stI (stI z2 16 0) 15 0).2 8 = z.2 8 := by
    show z2.2 8 = _
    rw [f2.2 8 (by decide)]; rfl
  rw [e8, Nat.zero_add] at o2
  rw [e8] at o3
  refine ⟨z', ?_, o2, ?_, ?_, ?_, ?_, ?_⟩
  · have g : x_Stream_goOver_29 (stI (stI z2 16 0) 15 0) = some (0, z') := o1 4000 (by omega)
    simp only [x_AddressStream_begin_29, x_Stream_begin_29, bnd_s, f1, obn_s, g, gib_0]
  · rw [o3, s1_n (by decide), s1_e, Int32.zero_add]
  · rw [o5 17 (by decide) (by decide), s1_n (by decide), s1_n (by decide), f2.1, s1_e]
  · intro q hq
    rw [o5 q (by omega) (by omega), s1_n (by omega), s1_n (by omega), f2.1, s1_n (by omega)]
  · intro q hq
    rw [o4]
    exact f2.2 q hq
  · intro j hj
    rw [o4]
    exact f3 j hj
theorem b_val {N : Nat} {z : ST} (hN : N ≤ 24) (h1 : z.1 1 = nI N) : ∃ z', x_ValueStream_begin_31 z = some (0, z') ∧ z'.1 18 = nI (advN (z.2 9) N 24 0) ∧ z'.1 19 = nI (advN (z.2 9) N 24 0) ∧ z'.1 20 = 0 ∧ (∀ q, q < 18 ∨ 20 < q → z'.1 q = z.1 q) ∧ (∀ q, q ≠ 21 → z'.2 q = z.2 q) ∧ ∀ j, j < 8 → z'.2 21 j = 0 := by
  obtain ⟨z2, f1, f2, f3⟩ := fil32 (stI z 20 0)
  obtain ⟨z', o1, o2, o3, o4, o5⟩ := ov31 hN 24 0 (stI (stI z2 19 0) 18 0) (by omega) (by
    rw [s1_n (by decide), s1_n (by decide), f2.1, s1_n (by decide), h1]) (by rw [s1_e, nI_0])
  have e8 : (stI (stI z2 19 0) 18 0).2 9 = z.2 9 := by
    show z2.2 9 = _
    rw [f2.2 9 (by decide)]; rfl
  rw [e8, Nat.zero_add] at o2
  rw [e8] at o3
  refine ⟨z', ?_, o2, ?_, ?_, ?_, ?_, ?_⟩
  · have g : x_Stream_goOver_31 (stI (stI z2 19 0) 18 0) = some (0, z') := o1 4000 (by omega)
    simp only [x_ValueStream_begin_31, x_Written_empty_33, x_Stream_begin_31, bnd_s, f1, obn_s, g]
  · rw [o3, s1_n (by decide), s1_e, Int32.zero_add]
  · rw [o5 20 (by decide) (by decide), s1_n (by decide), s1_n (by decide), f2.1, s1_e]
  · intro q hq
    rw [o5 q (by omega) (by omega), s1_n (by omega), s1_n (by omega), f2.1, s1_n (by omega)]
  · intro q hq
    rw [o4]
    exact f2.2 q hq
  · intro j hj
    rw [o4]
    exact f3 j hj
theorem b_plain (z : ST) : ∃ z', x_PlainRun_begin_35_12 z = some (0, z') ∧ z'.1 21 = 0 ∧ z'.1 22 = 0 ∧ (∀ q, q < 21 → z'.1 q = z.1 q) ∧ (∀ q, q ≠ 23 → q ≠ 24 → z'.2 q = z.2 q) ∧ (∀ j, j < 8 → z'.2 23 j = 0) ∧ ∀ j, j < 32 → z'.2 24 j = z.2 10 j := by
  obtain ⟨z2, f1, f2, f3⟩ := fil36 (stA z 24 (va_cpy (z.2 10) (z.2 24) (0 : Int32).toNatClampNeg (0 : Int32).toNatClampNeg (32 : Int32).toNatClampNeg))
  refine ⟨stI (stI z2 22 0) 21 0, ?_, ?_, ?_, ?_, ?_, ?_, ?_⟩
  · simp only [x_PlainRun_begin_35_12, x_Written_empty_38, bnd_s, f1, obn_s]
  · rw [s1_e]
  · rw [s1_n (by decide), s1_e]
  · intro q hq
    rw [s1_n (by omega), s1_n (by omega), f2.1]
    rfl
  · intro q h1 h2
    show z2.2 q = _
    rw [f2.2 q h1, s2_n h2]
  · intro j hj
    exact f3 j hj
  · intro j hj
    show z2.2 24 j = _
    rw [f2.2 24 (by decide), s2_e]
    exact cpy32 hj
theorem x_begin {N : Nat} {z : ST} (hN : N ≤ 24) (h1 : z.1 1 = nI N) : ∃ z', x_beginAnew z = some (0, z') ∧ z'.1 0 = 0 ∧ z'.1 1 = z.1 1 ∧ z'.1 2 = z.1 2 ∧ (∀ q, 3 ≤ q → q ≤ 14 → z'.1 q = 0) ∧ z'.1 15 = nI (advN (z.2 8) N 24 0) ∧ z'.1 16 = nI (advN (z.2 8) N 24 0) ∧ z'.1 17 = 0 ∧ z'.1 18 = nI (advN (z.2 9) N 24 0) ∧ z'.1 19 = nI (advN (z.2 9) N 24 0) ∧ z'.1 20 = 0 ∧ z'.1 21 = 0 ∧ z'.1 22 = 0 ∧ (∀ q, q ≤ 10 → z'.2 q = z.2 q) ∧ (∀ j, j < 32 → z'.2 11 j = z.2 10 j) ∧ (∀ j, j < 8 → z'.2 20 j = 0) ∧ (∀ j, j < 8 → z'.2 21 j = 0) ∧ (∀ j, j < 8 → z'.2 23 j = 0) ∧ ∀ j, j < 32 → z'.2 24 j = z.2 10 j := by
  obtain ⟨z1, a1, a2, a3, a4, a5⟩ := b_link z
  obtain ⟨z2, b1, b2, b3, b4, b5, b6, b7⟩ := b_addr hN (z := z1) (by rw [a3 1 (by omega), h1])
  obtain ⟨z3, c1, c2, c3, c4, c5, c6, c7⟩ := b_val hN (z := z2) (by rw [b5 1 (by omega), a3 1 (by omega), h1])
  obtain ⟨z4, d1, d2, d3, d4, d5, d6, d7⟩ := b_plain z3
  have e8 : z1.2 8 = z.2 8 := a4 8 (by decide)
  have e9 : z2.2 9 = z.2 9 := by rw [b6 9 (by decide), a4 9 (by decide)]
  have e10 : z3.2 10 = z.2 10 := by rw [c6 10 (by decide), b6 10 (by decide), a4 10 (by decide)]
  rw [e8] at b2 b3
  rw [e9] at c2 c3
  rw [e10] at d7
  refine ⟨stI z4 0 0, ?_, ?_, ?_, ?_, ?_, ?_, ?_, ?_, ?_, ?_, ?_, ?_, ?_, ?_, ?_, ?_, ?_, ?_, ?_⟩
  · simp only [x_beginAnew, a1, b1, c1, d1, obn_s, bnd_s]
  · rw [s1_e]
  · rw [s1_n (by decide), d4 1 (by omega), c5 1 (by omega), b5 1 (by omega), a3 1 (by omega)]
  · rw [s1_n (by decide), d4 2 (by omega), c5 2 (by omega), b5 2 (by omega), a3 2 (by omega)]
  · intro q h3 h4
    rw [s1_n (by omega), d4 q (by omega), c5 q (by omega), b5 q (by omega), a2 q h3 h4]
  · rw [s1_n (by decide), d4 15 (by omega), c5 15 (by omega), b2]
  · rw [s1_n (by decide), d4 16 (by omega), c5 16 (by omega), b3]
  · rw [s1_n (by decide), d4 17 (by omega), c5 17 (by omega), b4]
  · rw [s1_n (by decide), d4 18 (by omega), c2]
  · rw [s1_n (by decide), d4 19 (by omega), c3]
  · rw [s1_n (by decide), d4 20 (by omega), c4]
  · rw [s1_n (by decide), d2]
  · rw [s1_n (by decide), d3]
  · intro q hq
    show z4.2 q = _
    rw [d5 q (by omega) (by omega), c6 q (by omega), b6 q (by omega), a4 q (by omega)]
  · intro j hj
    show z4.2 11 j = _
    rw [d5 11 (by omega) (by omega), c6 11 (by omega), b6 11 (by omega), a5 j hj]
  · intro j hj
    show z4.2 20 j = _
    rw [d5 20 (by omega) (by omega), c6 20 (by omega), b7 j hj]
  · intro j hj
    show z4.2 21 j = _
    rw [d5 21 (by omega) (by omega), c7 j hj]
  · exact d6
  · exact d7
