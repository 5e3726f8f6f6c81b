-- the calls that only look
theorem o_streamOf {bd N : Nat} {z t : ST} (h : Rel bd N z t) (v : Int32) : ∃ r, x_streamOf z v = some (r, z) ∧ m_streamOf t v = some (r, t) := by
  have hs : N ≤ 24 ∧ z.1 1 = nI N ∧ t.1 0 = nI N := by
    obtain ⟨⟨p1, p2, p3, -⟩, -⟩ := h
    exact ⟨p1, p2, p3⟩
  obtain ⟨hN, hz1, ht0⟩ := hs
  simp only [x_streamOf, m_streamOf, hz1, ht0]
  by_cases q : v < 0
  · rw [if_pos q, if_pos q]
    exact ⟨_, rfl, rfl⟩
  · rw [if_neg q, if_neg q]
    by_cases p : nI N ≤ v
    · rw [if_pos p, if_pos p]
      exact ⟨_, rfl, rfl⟩
    · rw [if_neg p, if_neg p]
      obtain ⟨j, hj, rfl⟩ := nI_of q
      have hjN : j < N := by
        refine Nat.lt_of_not_le (fun le => p ?_)
        exact nI_le le hj
      obtain ⟨-, -, -, ok, e0, e1, e2, e3, e4, -⟩ := R_at h hjN
      refine ⟨fBel (t.2 0 j) (t.2 1 j) (t.2 2 j) (t.2 4), ?_, ?_⟩
      · rw [gin_n (show j < 24 by omega) (by decide), cl_n hj, e4]
      · rw [m_belongs_s (show j < 24 by omega) ok, obn_s]
theorem mR1 {n : Nat} {t : ST} {y1 y2 y3 : Int32} : m_addressRegisters_f (n + 1) 1 t y1 y2 y3 = m_addressRegisters_g4 (m_addressRegisters_f n) t y1 y2 y3 := rfl
theorem mR2 {n : Nat} {t : ST} {y1 y2 y3 : Int32} : m_addressRegisters_f (n + 1) 2 t y1 y2 y3 = m_addressRegisters_f n 1 t y3 (y2 + 1) 0 := rfl
theorem mR_loop {t : ST} {S : Nat → Bool} (hd : ∀ q, q < 8 → (S q = false ↔ t.2 4 q = 0)) : ∀ (m i n : Nat), i + m = 8 → 2 * m + 1 ≤ n → m_addressRegisters_f n 1 t (nI (cnt8 S i)) (nI i) 0 = some (nI (cnt8 S 8), t) := by
  intro m
  induction m with
  | zero =>
    intro i n hi hn
    obtain ⟨n, rfl⟩ : ∃ k, n = k + 1 := ⟨n - 1, by omega⟩
    have e : i = 8 := by omega
    subst e
    rw [mR1, m_addressRegisters_g4, if_pos (by decide)]
  | succ m ih =>
    intro i n hi hn
    obtain ⟨n, rfl⟩ : ∃ k, n = k + 1 + 1 := ⟨n - 2, by omega⟩
    have i1 := ih (i + 1) n (by omega) (by omega)
    have hd1 := hd i (by omega)
    rw [mR1, m_addressRegisters_g4, if_neg (show ¬ (8 : Int32) ≤ nI i from nI_ge (b := 8) (by omega) (by omega)), gin_n (show i < 8 by omega) (by decide), cl_n (show i < 2 ^ 31 by omega)]
    by_cases q : t.2 4 i = 0
    · rw [if_pos q, mR2, nI_1, ← i1, cnt8, hd1.mpr q]
      rfl
    · have st : S i = true := by
        cases hh : S i with
        | false => exact absurd (hd1.mp hh) q
        | true => rfl
      rw [if_neg q, mR2, nI_1, nI_1, ← i1, cnt8, st]
      rfl
theorem bitc : ∀ k, k < 256 → x_Integer_bitCount q_z0 (nI k) = some (nI (cnt8 (fun q => k.testBit q) 8), q_z0) := by
  intro k hk
  have : ∀ k, k < 256 → (x_Integer_bitCount q_z0 (nI k)).map (fun p => p.1) = some (nI (cnt8 (fun q => k.testBit q) 8)) := by decide +kernel
  have := this k hk
  simp only [x_Integer_bitCount, Option.map_some, Option.some.injEq] at this ⊢
  rw [this]
theorem o_addrRegs {bd N : Nat} {z t : ST} (h : Rel bd N z t) : ∃ r, x_addressRegisters z = some (r, z) ∧ m_addressRegisters t = some (r, t) := by
  obtain ⟨⟨k, hk, hm, hd⟩, -⟩ := R_mb h
  refine ⟨nI (cnt8 (fun q => k.testBit q) 8), ?_, ?_⟩
  · have b := bitc k hk
    rw [← hm] at b
    have b' : x_Integer_bitCount z (z.1 2) = some (nI (cnt8 (fun q => k.testBit q) 8), z) := by
      simp only [x_Integer_bitCount, Option.some.injEq, Prod.mk.injEq, and_true] at b ⊢
      exact b
    simp only [x_addressRegisters, b', obn_s]
  · show m_addressRegisters_g0 (m_addressRegisters_f 3999) t 0 0 0 = _
    simp only [m_addressRegisters_g0]
    have l := mR_loop hd 8 0 3999 (by omega) (by omega)
    rw [show cnt8 (fun q => k.testBit q) 0 = 0 from rfl, nI_0] at l
    exact l
theorem o_place {bd N : Nat} {z t : ST} (h : Rel bd N z t) (v : Int32) : ∃ r, x_place z v = some (r, z) ∧ m_place t v = some (r, t) := by
  have hs : N ≤ 24 ∧ z.1 1 = nI N ∧ t.1 0 = nI N := by
    obtain ⟨⟨p1, p2, p3, -⟩, -⟩ := h
    exact ⟨p1, p2, p3⟩
  obtain ⟨hN, hz1, ht0⟩ := hs
  obtain ⟨r0, r1⟩ := R_aa h
  obtain ⟨-, -, r2⟩ := R_pl h
  have go : ∀ (y x w : Int32), RAt x w → ∃ r, (if nI N < x then nI N else x) = r ∧ m_place_22 t y w = some (r, t) := by
    rintro y x w ⟨a, ha, rfl, rfl⟩
    simp only [m_place_22, ht0]
    by_cases q : N < a
    · refine ⟨nI N, by rw [if_pos (nI_lt q (by omega))], by rw [if_pos (nI_le (by omega) (by omega))]⟩
    · refine ⟨nI a, by rw [if_neg (nI_nlt (by omega) (by omega))], ?_⟩
      by_cases p : N = a
      · rw [if_pos (nI_le (by omega) (by omega)), p]
      · rw [if_neg (nI_ge (by omega) (by omega))]
  by_cases q0 : v = 0
  · subst q0
    obtain ⟨r, g1, g2⟩ := go 0 _ _ r0
    refine ⟨r, ?_, ?_⟩
    · simp only [x_place, if_true, x_Run_position_29, obn_s, hz1, g1]
    · simp only [m_place, if_true, m_place_9, gin_r (show inR (0 : Int32) 2 = true by decide), show (0 : Int32).toNatClampNeg = 0 by decide, g2]
  · by_cases q1 : v = 1
    · subst q1
      obtain ⟨r, g1, g2⟩ := go 1 _ _ r1
      refine ⟨r, ?_, ?_⟩
      · simp only [x_place, if_neg q0, if_true, x_Run_position_31, obn_s, hz1, g1]
      · simp only [m_place, if_neg q0, if_true, m_place_9, gin_r (show inR (1 : Int32) 2 = true by decide), show (1 : Int32).toNatClampNeg = 1 by decide, g2]
    · obtain ⟨r, g1, g2⟩ := go v _ _ r2
      refine ⟨r, ?_, ?_⟩
      · simp only [x_place, if_neg q0, if_neg q1, x_Run_position_35, obn_s, hz1, g1]
      · simp only [m_place, if_neg q0, if_neg q1, g2]
theorem o_slip {bd N : Nat} {z t : ST} (h : Rel bd N z t) : ∃ r, x_slip z = some (r, z) ∧ m_slip t = some (r, t) := by
  obtain ⟨hP, hM, hD, hT, hF, hme, q0, q1, q2, q3, q4, hS, hA, hV, ha, hb, la, lb, hs, hl, hW, pr, pm, pa, pw⟩ := h
  refine ⟨_, rfl, ?_⟩
  simp only [m_slip, gin_r (show inR (0 : Int32) 2 = true by decide), gin_r (show inR (1 : Int32) 2 = true by decide), show (0 : Int32).toNatClampNeg = 0 by decide, show (1 : Int32).toNatClampNeg = 1 by decide, la, lb]
theorem o_losses {bd N : Nat} {z t : ST} (h : Rel bd N z t) : ∃ r, x_losses z = some (r, z) ∧ m_losses t = some (r, t) := ⟨_, rfl, by rw [R_lo h]; rfl⟩
theorem o_queue {bd N : Nat} {z t : ST} (h : Rel bd N z t) (v : Int32) : ∃ r, x_queue z v = some (r, z) ∧ m_queue t v = some (r, t) := by
  obtain ⟨hP, hM, hD, hT, hF, hme, q0, q1, q2, q3, q4, hS, hA, hV, ha, hb, la, lb, hs, hl, hW, pr, pm, pa, pw⟩ := h
  obtain ⟨f0, n0, -, -, -, a0, b0, -⟩ := q0
  obtain ⟨f1, n1, -, -, -, a1, b1, -⟩ := q1
  obtain ⟨f2, n2, -, -, -, a2, b2, -⟩ := q2
  obtain ⟨f3, n3, -, -, -, a3, b3, -⟩ := q3
  obtain ⟨f4, n4, -, -, -, a4, b4, -⟩ := q4
  obtain ⟨f5, n5, -, -, -, a5, b5, -⟩ := hS
  have t5 : (5 : Int32).toInt = ((5 : Nat) : Int) := by decide
  by_cases neg : v < 0
  · have k0 : ¬ v = 0 := by intro e; rw [e] at neg; revert neg; decide
    have k1 : ¬ v = 1 := by intro e; rw [e] at neg; revert neg; decide
    have k2 : ¬ v = 2 := by intro e; rw [e] at neg; revert neg; decide
    have k3 : ¬ v = 3 := by intro e; rw [e] at neg; revert neg; decide
    have k4 : ¬ v = 4 := by intro e; rw [e] at neg; revert neg; decide
    have k5 : ¬ v = 5 := by intro e; rw [e] at neg; revert neg; decide
    refine ⟨-1, ?_, ?_⟩
    · simp only [x_queue, if_neg k0, if_neg k1, if_neg k2, if_neg k3, if_neg k4, if_neg k5]
    · simp only [m_queue, if_pos neg]
  · by_cases le : v ≤ 5
    · obtain ⟨j, hj, rfl⟩ := nI_of2 t5 neg le
      rcases (show j = 0 ∨ j = 1 ∨ j = 2 ∨ j = 3 ∨ j = 4 ∨ j = 5 by omega) with e | e | e | e | e | e
      · subst e
        refine ⟨nI n0, ?_, ?_⟩
        · rw [show nI 0 = (0 : Int32) by decide]
          simp (decide := true) only [x_queue, if_true, a0]
        · rw [show nI 0 = (0 : Int32) by decide]
          simp (decide := true) only [m_queue, if_true, if_false, gin_r (show inR (0 : Int32) 5 = true by decide), show (0 : Int32).toNatClampNeg = 0 by decide, b0]
      · subst e
        refine ⟨nI n1, ?_, ?_⟩
        · rw [show nI 1 = (1 : Int32) by decide]
          simp (decide := true) only [x_queue, if_true, if_false, a1]
        · rw [show nI 1 = (1 : Int32) by decide]
          simp (decide := true) only [m_queue, if_true, if_false, gin_r (show inR (1 : Int32) 5 = true by decide), show (1 : Int32).toNatClampNeg = 1 by decide, b1]
      · subst e
        refine ⟨nI n2, ?_, ?_⟩
        · rw [show nI 2 = (2 : Int32) by decide]
          simp (decide := true) only [x_queue, if_true, if_false, a2]
        · rw [show nI 2 = (2 : Int32) by decide]
          simp (decide := true) only [m_queue, if_true, if_false, gin_r (show inR (2 : Int32) 5 = true by decide), show (2 : Int32).toNatClampNeg = 2 by decide, b2]
      · subst e
        refine ⟨nI n3, ?_, ?_⟩
        · rw [show nI 3 = (3 : Int32) by decide]
          simp (decide := true) only [x_queue, if_true, if_false, a3]
        · rw [show nI 3 = (3 : Int32) by decide]
          simp (decide := true) only [m_queue, if_true, if_false, gin_r (show inR (3 : Int32) 5 = true by decide), show (3 : Int32).toNatClampNeg = 3 by decide, b3]
      · subst e
        refine ⟨nI n4, ?_, ?_⟩
        · rw [show nI 4 = (4 : Int32) by decide]
          simp (decide := true) only [x_queue, if_true, if_false, a4]
        · rw [show nI 4 = (4 : Int32) by decide]
          simp (decide := true) only [m_queue, if_true, if_false, gin_r (show inR (4 : Int32) 5 = true by decide), show (4 : Int32).toNatClampNeg = 4 by decide, b4]
      · subst e
        refine ⟨nI n5, ?_, ?_⟩
        · rw [show nI 5 = (5 : Int32) by decide]
          simp (decide := true) only [x_queue, if_true, if_false, a5]
        · rw [show nI 5 = (5 : Int32) by decide]
          simp (decide := true) only [m_queue, if_true, if_false, b5]
    · have k0 : ¬ v = 0 := by intro e; rw [e] at le; revert le; decide
      have k1 : ¬ v = 1 := by intro e; rw [e] at le; revert le; decide
      have k2 : ¬ v = 2 := by intro e; rw [e] at le; revert le; decide
      have k3 : ¬ v = 3 := by intro e; rw [e] at le; revert le; decide
      have k4 : ¬ v = 4 := by intro e; rw [e] at le; revert le; decide
      have k5 : ¬ v = 5 := by intro e; rw [e] at le; revert le; decide
      refine ⟨-1, ?_, ?_⟩
      · simp only [x_queue, if_neg k0, if_neg k1, if_neg k2, if_neg k3, if_neg k4, if_neg k5]
      · simp only [m_queue, if_neg neg, if_neg le]
theorem isReg_s (v : Int32) (z t : ST) : (x_isRegister z v = some (0, z) ∧ m_isRegister t v = some (0, t) ∧ ¬ R8 v) ∨ (R8 v ∧ x_isRegister z v = some (1, z) ∧ m_isRegister t v = some (1, t)) := by
  simp only [x_isRegister, m_isRegister, gib_0, gib_1]
  by_cases q : v < 0
  · left
    rw [if_pos q, if_pos q]
    exact ⟨rfl, rfl, fun e => R8_pos e q⟩
  · rw [if_neg q, if_neg q]
    by_cases p : 8 ≤ v
    · left
      rw [if_pos p, if_pos p]
      refine ⟨rfl, rfl, ?_⟩
      rintro ⟨i, hi, rfl⟩
      exact absurd p (nI_ge (b := 8) hi (by omega))
    · right
      rw [if_neg p, if_neg p]
      obtain ⟨j, hj, rfl⟩ := nI_of q
      refine ⟨⟨j, Nat.lt_of_not_le (fun le => p ?_), rfl⟩, rfl, rfl⟩
      exact nI_le (a := 8) le hj
theorem o_register {bd N : Nat} {z t : ST} (h : Rel bd N z t) (v w : Int32) : ∃ r, x_register z v w = some (r, z) ∧ m_register t v w = some (r, t) := by
  obtain ⟨hMB, -, hA, hV, -⟩ := R_mb h
  obtain ⟨hrg, -⟩ := R_pl h
  rcases isReg_s v z t with ⟨c1, c2, -⟩ | ⟨hv, c1, c2⟩
  · refine ⟨0, ?_, ?_⟩
    · simp only [x_register, c1, obn_s, if_true]
    · simp only [m_register, c2, obn_s, if_true]
  · obtain ⟨i, hi, hie, hic, hir, -⟩ := R8_cl hv
    obtain ⟨i8, c8⟩ := R8_8 hi hie
    have n10 : ¬ (1 : Int32) = 0 := by decide
    by_cases q : w = 0
    · by_cases p : t.2 4 i = 0
      · have fa : fAd (t.2 4) v = 0 := by rw [fAd_R8 hv, hic, if_pos p]
        refine ⟨z.2 21 i, ?_, ?_⟩
        · simp only [x_register, c1, obn_s, if_neg n10, if_pos q, x_isAddr_s hMB (Or.inr hv), fa, if_true, gin_r hir, hic]
        · simp only [m_register, c2, obn_s, if_neg n10, if_pos q, gin_r hir, hic, if_pos p, gin_r i8, c8, hV i hi p]
      · have fa : fAd (t.2 4) v = 1 := by rw [fAd_R8 hv, hic, if_neg p]
        have := hA i hi
        rw [Nat.zero_add] at this
        refine ⟨z.2 20 i, ?_, ?_⟩
        · simp only [x_register, c1, obn_s, if_neg n10, if_pos q, x_isAddr_s hMB (Or.inr hv), fa, gin_r hir, hic]
        · simp only [m_register, c2, obn_s, if_neg n10, if_pos q, gin_r hir, hic, if_neg p, gin_r (R8_16 hv), this]
    · refine ⟨z.2 23 i, ?_, ?_⟩
      · simp only [x_register, c1, obn_s, if_neg n10, if_neg q, gin_r hir, hic]
      · simp only [m_register, c2, obn_s, if_neg n10, if_neg q, gin_r hir, hic, hrg i hi]
theorem o_peek {bd N : Nat} {z t : ST} (h : Rel bd N z t) (v w : Int32) : ∃ r, x_peek z v w = some (r, z) ∧ m_peek t v w = some (r, t) := by
  obtain ⟨-, -, -, -, hme, -⟩ := R_mb h
  obtain ⟨-, hmm, -⟩ := R_pl h
  obtain ⟨j, hj, he⟩ := pk_andE v (m := 31) 5 (by decide)
  have := hme j hj
  rw [Nat.zero_add] at this
  simp only [x_peek, m_peek, he, gin_n (show j < 32 from hj) (by decide : 32 < 2 ^ 31), cl_n (show j < 2 ^ 31 by omega), this, hmm j hj]
  by_cases q : w = 0
  · rw [if_pos q, if_pos q]
    exact ⟨_, rfl, rfl⟩
  · rw [if_neg q, if_neg q]
    exact ⟨_, rfl, rfl⟩
theorem R_ww {bd N : Nat} {z t : ST} (h : Rel bd N z t) : RW bd 0 (z.1 20) (t.1 8) (z.2 22) (t.2 16) ∧ RW bd 64 (z.1 22) (t.1 9) (z.2 25) (t.2 16) := by
  obtain ⟨hP, hM, hD, hT, hF, hme, q0, q1, q2, q3, q4, hS, hA, hV, ha, hb, la, lb, hs, hl, hW, pr, pm, pa, pw⟩ := h
  exact ⟨hW, pw⟩
theorem o_outputs {bd N : Nat} {z t : ST} (h : Rel bd N z t) (v : Int32) : ∃ r, x_outputs z v = some (r, z) ∧ m_outputs t v = some (r, t) := by
  obtain ⟨⟨c, -, h2, h3, -⟩, ⟨d, -, g2, g3, -⟩⟩ := R_ww h
  simp only [x_outputs, m_outputs, h2, h3, g2, g3]
  by_cases q : v = 0
  · rw [if_pos q, if_pos q]
    exact ⟨_, rfl, rfl⟩
  · rw [if_neg q, if_neg q]
    exact ⟨_, rfl, rfl⟩
theorem o_output {bd N : Nat} {z t : ST} (h : Rel bd N z t) (hbd : bd < 1000000) (v w : Int32) : ∃ r, x_output z v w = some (r, z) ∧ m_output t v w = some (r, t) := by
  obtain ⟨⟨c, h1, h2, h3, h4⟩, ⟨d, g1, g2, g3, g4⟩⟩ := R_ww h
  have t63 : (63 : Int32).toInt = ((63 : Nat) : Int) := by decide
  by_cases neg : v < 0
  · refine ⟨0, ?_, ?_⟩
    · simp only [x_output, x_Written_thing_33, x_Written_thing_38, if_pos neg, obn_s]
      split <;> rfl
    · simp only [m_output, m_output_15, if_pos neg]
      split <;> rfl
  · by_cases l63 : v ≤ 63
    · obtain ⟨j, hj, rfl⟩ := nI_of2 t63 neg l63
      have n64 : ¬ (64 : Int32) ≤ nI j := nI_ge (b := 64) (by omega) (by omega)
      by_cases q : w = 0
      · simp only [x_output, m_output, if_pos q, x_Written_thing_33, m_output_15, if_neg neg, h2, h3, if_neg n64, if_pos l63]
        by_cases p : c ≤ j
        · rw [if_pos (nI_le p (by omega)), if_pos (nI_le p (by omega))]
          exact ⟨0, rfl, rfl⟩
        · have np : ¬ nI c ≤ nI j := nI_ge (by omega) (by omega)
          have e := h4 j (by omega) (by omega)
          rw [if_neg np, if_neg np, gin_n (show j < 64 by omega) (by decide), cl_n (show j < 2 ^ 31 by omega), obn_s, show (0 : Int32) + nI j = nI (0 + j) from nI_add 0 j, gin_n (show 0 + j < 128 by omega) (by decide), cl_n (show 0 + j < 2 ^ 31 by omega), ← e]
          exact ⟨_, rfl, rfl⟩
      · simp only [x_output, m_output, if_neg q, x_Written_thing_38, m_output_15, if_neg neg, g2, g3, if_neg n64, if_pos l63]
        by_cases p : d ≤ j
        · rw [if_pos (nI_le p (by omega)), if_pos (nI_le p (by omega))]
          exact ⟨0, rfl, rfl⟩
        · have np : ¬ nI d ≤ nI j := nI_ge (by omega) (by omega)
          have e := g4 j (by omega) (by omega)
          rw [if_neg np, if_neg np, gin_n (show j < 64 by omega) (by decide), cl_n (show j < 2 ^ 31 by omega), obn_s, show (64 : Int32) + nI j = nI (64 + j) from nI_add 64 j, gin_n (show 64 + j < 128 by omega) (by decide), cl_n (show 64 + j < 2 ^ 31 by omega), ← e]
          exact ⟨_, rfl, rfl⟩
    · obtain ⟨j, hj, rfl⟩ := nI_of neg
      have p64 : (64 : Int32) ≤ nI j := by
        refine nI_le (a := 64) (Nat.le_of_not_lt (fun lt => l63 ?_)) hj
        exact nI_le (b := 63) (by omega) (by omega)
      refine ⟨0, ?_, ?_⟩
      · simp only [x_output, x_Written_thing_33, x_Written_thing_38, if_neg neg, if_pos p64, ite_self, obn_s]
      · simp only [m_output, m_output_15, if_neg neg, if_neg l63, ite_self]
