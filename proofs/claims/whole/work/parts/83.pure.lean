-- the reference's reset
theorem mz1 {n : Nat} {t : ST} {y : Int32} : m_reset_f (n + 1) 1 t y = m_reset_g2 (m_reset_f n) t y := rfl
theorem mz2 {n : Nat} {t : ST} {y : Int32} : m_reset_f (n + 1) 2 t y = m_reset_g33 (m_reset_f n) t y := rfl
theorem mz3 {n : Nat} {t : ST} {y : Int32} : m_reset_f (n + 1) 3 t y = m_reset_g81 (m_reset_f n) t y := rfl
theorem mz4 {n : Nat} {t : ST} {y : Int32} : m_reset_f (n + 1) 4 t y = m_reset_g131 (m_reset_f n) t y := rfl
theorem rs1 : ∀ (m i : Nat) (t : ST), i + m = 16 → (∀ q, q < i → t.2 5 q = 0) → (∀ q, q < i → q < 8 → t.2 14 q = 0) → ∃ t', (∀ n, m_reset_f (n + (m + 1)) 1 t (nI i) = m_reset_f n 2 t' 0) ∧ t'.1 = t.1 ∧ (∀ q, q ≠ 5 → q ≠ 14 → t'.2 q = t.2 q) ∧ (∀ q, q < 16 → t'.2 5 q = 0) ∧ ∀ q, q < 8 → t'.2 14 q = 0 := by
  intro m
  induction m with
  | zero =>
    intro i t hm h5 h14
    refine ⟨t, fun n => ?_, rfl, fun _ _ _ => rfl, fun q hq => h5 q (by omega), fun q hq => h14 q (by omega) hq⟩
    rw [show n + (0 + 1) = n + 1 by omega, mz1, m_reset_g2, if_pos (show (16 : Int32) ≤ nI i from nI_le (a := 16) (by omega) (by omega))]
  | succ m ih =>
    intro i t hm h5 h14
    obtain ⟨t', i1, i2, i3, i4, i5⟩ := ih (i + 1) (stA (stA t 5 (upd (t.2 5) i 0)) 14 (upd (t.2 14) (i % 8) 0)) (by omega) (fun q hq => by
      show upd (t.2 5) i 0 q = 0
      rw [upd]
      split
      · rfl
      · exact h5 q (by omega)) (fun q hq h8 => by
      show upd (t.2 14) (i % 8) 0 q = 0
      rw [upd]
      split
      · rfl
      · exact h14 q (by omega) h8)
    refine ⟨t', fun n => ?_, i2, fun q h1 h2 => ?_, i4, i5⟩
    · have e : nI i - nI i / 8 * 8 = nI (i % 8) := pk_rem (a := i) (d := 8) (by omega) (by omega) (by omega)
      have l8 : i % 8 < 8 := Nat.mod_lt _ (by omega)
      rw [show n + (m + 1 + 1) = n + (m + 1) + 1 by omega, mz1, m_reset_g2, if_neg (show ¬ (16 : Int32) ≤ nI i from nI_ge (b := 16) (by omega) (by omega))]
      simp only [gin_n (show i < 16 by omega) (by decide : 16 < 2 ^ 31), cl_n (show i < 2 ^ 31 by omega), bnd_s, e, gin_n l8 (by decide : 8 < 2 ^ 31), cl_n (show i % 8 < 2 ^ 31 by omega), nI_1]
      exact i1 n
    · rw [i3 q h1 h2, s2_n h2, s2_n h1]
theorem rs2 : ∀ (m i : Nat) (t : ST), i + m = 32 → (∀ q, q < i → t.2 8 q = t.1 1 + nI q * t.1 2) → (∀ q, q < i → t.2 15 q = t.1 1 + nI q * t.1 2) → ∃ t', (∀ n, m_reset_f (n + (m + 1)) 2 t (nI i) = m_reset_f n 3 t' 0) ∧ t'.1 = t.1 ∧ (∀ q, q ≠ 8 → q ≠ 15 → t'.2 q = t.2 q) ∧ (∀ q, q < 32 → t'.2 8 q = t.1 1 + nI q * t.1 2) ∧ ∀ q, q < 32 → t'.2 15 q = t.1 1 + nI q * t.1 2 := by
  intro m
  induction m with
  | zero =>
    intro i t hm h5 h14
    refine ⟨t, fun n => ?_, rfl, fun _ _ _ => rfl, fun q hq => h5 q (by omega), fun q hq => h14 q (by omega)⟩
    rw [show n + (0 + 1) = n + 1 by omega, mz2, m_reset_g33, if_pos (show (32 : Int32) ≤ nI i from nI_le (a := 32) (by omega) (by omega))]
  | succ m ih =>
    intro i t hm h5 h14
    obtain ⟨t', i1, i2, i3, i4, i5⟩ := ih (i + 1) (stA (stA t 8 (upd (t.2 8) i (t.1 1 + nI i * t.1 2))) 15 (upd (t.2 15) i (t.1 1 + nI i * t.1 2))) (by omega) (fun q hq => by
      show upd (t.2 8) i (t.1 1 + nI i * t.1 2) q = t.1 1 + nI q * t.1 2
      rw [upd]
      split
      · next e => rw [e]
      · exact h5 q (by omega)) (fun q hq => by
      show upd (t.2 15) i (t.1 1 + nI i * t.1 2) q = t.1 1 + nI q * t.1 2
      rw [upd]
      split
      · next e => rw [e]
      · exact h14 q (by omega))
    refine ⟨t', fun n => ?_, i2, fun q h1 h2 => ?_, i4, i5⟩
    · rw [show n + (m + 1 + 1) = n + (m + 1) + 1 by omega, mz2, m_reset_g33, if_neg (show ¬ (32 : Int32) ≤ nI i from nI_ge (b := 32) (by omega) (by omega))]
      simp only [gin_n (show i < 32 by omega) (by decide : 32 < 2 ^ 31), cl_n (show i < 2 ^ 31 by omega), bnd_s, nI_1]
      exact i1 n
    · rw [i3 q h1 h2, s2_n h2, s2_n h1]
theorem rs3 : ∀ (m i : Nat) (t : ST), i + m = 5 → (∀ q, q < i → t.2 10 q = 0) → ∃ t', (∀ n, m_reset_f (n + (m + 1)) 3 t (nI i) = m_reset_f n 4 t' 0) ∧ (∀ q, q < 3 → t'.1 q = t.1 q) ∧ t'.1 3 = 0 ∧ t'.1 4 = 0 ∧ t'.1 6 = 0 ∧ t'.1 7 = 0 ∧ t'.1 8 = 0 ∧ t'.1 9 = 0 ∧ (∀ q, q ≠ 10 → t'.2 q = t.2 q) ∧ ∀ q, q < 5 → t'.2 10 q = 0 := by
  intro m
  induction m with
  | zero =>
    intro i t hm h5
    refine ⟨stI (stI (stI (stI (stI (stI t 6 0) 3 0) 4 0) 7 0) 8 0) 9 0, fun n => ?_, fun q hq => ?_, rfl, rfl, rfl, rfl, rfl, rfl, fun _ _ => rfl, fun q hq => h5 q (by omega)⟩
    · rw [show n + (0 + 1) = n + 1 by omega, mz3, m_reset_g81, if_pos (show (5 : Int32) ≤ nI i from nI_le (a := 5) (by omega) (by omega))]
      simp only [bnd_s, gib_0]
    · rw [s1_n (by omega), s1_n (by omega), s1_n (by omega), s1_n (by omega), s1_n (by omega), s1_n (by omega)]
  | succ m ih =>
    intro i t hm h5
    obtain ⟨t', i1, i2, i3, i4, i5, i6, i7, i8, i9, i10⟩ := ih (i + 1) (stA t 10 (upd (t.2 10) i 0)) (by omega) (fun q hq => by
      rw [s2_e, upd]
      split
      · rfl
      · exact h5 q (by omega))
    refine ⟨t', fun n => ?_, i2, i3, i4, i5, i6, i7, i8, fun q h1 => ?_, i10⟩
    · rw [show n + (m + 1 + 1) = n + (m + 1) + 1 by omega, mz3, m_reset_g81, if_neg (show ¬ (5 : Int32) ≤ nI i from nI_ge (b := 5) (by omega) (by omega))]
      simp only [gin_n (show i < 5 by omega) (by decide : 5 < 2 ^ 31), cl_n (show i < 2 ^ 31 by omega), bnd_s, nI_1]
      exact i1 n
    · rw [i9 q h1, s2_n h1]
theorem rs4 {N : Nat} {t : ST} (hN : N ≤ 24) (h1 : t.1 0 = nI N) (hok : ∀ j, j < N → okI (t.2 0 j) (t.2 1 j) (t.2 2 j) (t.2 3 j)) : ∃ t', (∀ n, m_reset_f (n + 3) 4 t 0 = some (0, t')) ∧ t'.1 = t.1 ∧ (∀ q, q ≠ 6 → q ≠ 7 → t'.2 q = t.2 q) ∧ t'.2 6 0 = nI (advN (fun j => fN0 (t.2 0 j) (t.2 1 j) (t.2 2 j) (t.2 3 j) (t.2 4)) N 24 0) ∧ t'.2 7 0 = nI (advN (fun j => fN0 (t.2 0 j) (t.2 1 j) (t.2 2 j) (t.2 3 j) (t.2 4)) N 24 0) ∧ t'.2 6 1 = nI (advN (fun j => fN1 (t.2 0 j) (t.2 1 j) (t.2 2 j) (t.2 4)) N 24 0) ∧ t'.2 7 1 = nI (advN (fun j => fN1 (t.2 0 j) (t.2 1 j) (t.2 2 j) (t.2 4)) N 24 0) := by
  have s6 : ∀ (g : Nat → Int32) (k : Nat), upd g k 0 k = 0 := fun g k => by rw [upd, if_pos rfl]
  obtain ⟨t1, a1, a2, a3, a4, a5, a6, a7⟩ := mov0 hN 24 0 (stA (stA t 6 (upd (t.2 6) 0 0)) 7 (upd (t.2 7) 0 0)) (by omega) h1 hok (by
    show upd (t.2 6) 0 0 0 = _
    rw [s6, nI_0])
  have b0 : ∀ q, q < 5 → t1.2 q = t.2 q := fun q hq => by rw [a5 q (by omega) (by omega), s2_n (by omega), s2_n (by omega)]
  obtain ⟨t2, c1, c2, c3, c4, c5, c6, c7⟩ := mov1 hN 24 0 (stA (stA t1 6 (upd (t1.2 6) 1 0)) 7 (upd (t1.2 7) 1 0)) (by omega) (by
    show t1.1 0 = _
    rw [a4]; exact h1) (fun j hj => by
    show okI (t1.2 0 j) (t1.2 1 j) (t1.2 2 j) (t1.2 3 j)
    rw [b0 0 (by omega), b0 1 (by omega), b0 2 (by omega), b0 3 (by omega)]
    exact hok j hj) (by
    show upd (t1.2 6) 1 0 1 = _
    rw [s6, nI_0])
  have d0 : (stA (stA t1 6 (upd (t1.2 6) 1 0)) 7 (upd (t1.2 7) 1 0)).2 0 = t.2 0 := b0 0 (by omega)
  have d1 : (stA (stA t1 6 (upd (t1.2 6) 1 0)) 7 (upd (t1.2 7) 1 0)).2 1 = t.2 1 := b0 1 (by omega)
  have d2 : (stA (stA t1 6 (upd (t1.2 6) 1 0)) 7 (upd (t1.2 7) 1 0)).2 2 = t.2 2 := b0 2 (by omega)
  have d4 : (stA (stA t1 6 (upd (t1.2 6) 1 0)) 7 (upd (t1.2 7) 1 0)).2 4 = t.2 4 := b0 4 (by omega)
  rw [d0, d1, d2, d4, Nat.zero_add] at c2
  rw [d0, d1, d2, d4] at c3
  have g0 : m_goOver (stA (stA t 6 (upd (t.2 6) 0 0)) 7 (upd (t.2 7) 0 0)) 0 = some (0, t1) := a1 4000 (by omega)
  have g1 : m_goOver (stA (stA t1 6 (upd (t1.2 6) 1 0)) 7 (upd (t1.2 7) 1 0)) 1 = some (0, t2) := c1 4000 (by omega)
  refine ⟨t2, fun n => ?_, ?_, ?_, ?_, ?_, ?_, ?_⟩
  · have z0 : (stA t 6 (upd (t.2 6) 0 0)).2 7 = t.2 7 := rfl
    have z1 : (stA t1 6 (upd (t1.2 6) 1 0)).2 7 = t1.2 7 := rfl
    have p1 : (0 : Int32) + 1 = 1 := by decide
    have p2 : (1 : Int32) + 1 = 2 := by decide
    rw [show n + 3 = n + 2 + 1 by omega, mz4, m_reset_g131, if_neg (by decide)]
    simp only [gin_r (show inR (0 : Int32) 2 = true by decide), show (0 : Int32).toNatClampNeg = 0 by decide, bnd_s, z0, g0, obn_s, p1]
    rw [show n + 2 = n + 1 + 1 by omega, mz4, m_reset_g131, if_neg (by decide)]
    simp only [gin_r (show inR (1 : Int32) 2 = true by decide), show (1 : Int32).toNatClampNeg = 1 by decide, bnd_s, z1, g1, obn_s, p2]
    rw [mz4, m_reset_g131, if_pos (by decide)]
  · rw [c4]
    show t1.1 = _
    rw [a4]
    rfl
  · intro q h6 h7
    rw [c5 q h6 h7, s2_n h7, s2_n h6, a5 q h6 h7, s2_n h7, s2_n h6]
  · rw [c6]
    show upd (t1.2 6) 1 0 0 = _
    rw [upd, if_neg (by decide), a2, Nat.zero_add]
    rfl
  · rw [c7]
    show upd (t1.2 7) 1 0 0 = _
    rw [upd, if_neg (by decide), a3]
    show upd (t.2 7) 0 0 0 + _ = _
    rw [s6, Int32.zero_add]
    rfl
  · rw [c2]
  · rw [c3]
    show upd (t1.2 7) 1 0 1 + _ = _
    rw [s6, Int32.zero_add]
theorem m_rst {N : Nat} {t : ST} (hN : N ≤ 24) (h1 : t.1 0 = nI N) (hok : ∀ j, j < N → okI (t.2 0 j) (t.2 1 j) (t.2 2 j) (t.2 3 j)) : ∃ t', m_reset t = some (0, t') ∧ (∀ q, q < 3 → t'.1 q = t.1 q) ∧ t'.1 3 = 0 ∧ t'.1 4 = 0 ∧ t'.1 6 = 0 ∧ t'.1 7 = 0 ∧ t'.1 8 = 0 ∧ t'.1 9 = 0 ∧ (∀ q, q < 5 → t'.2 q = t.2 q) ∧ (∀ q, q < 16 → t'.2 5 q = 0) ∧ (∀ q, q < 8 → t'.2 14 q = 0) ∧ (∀ q, q < 32 → t'.2 8 q = t.1 1 + nI q * t.1 2) ∧ (∀ q, q < 32 → t'.2 15 q = t.1 1 + nI q * t.1 2) ∧ (∀ q, q < 5 → t'.2 10 q = 0) ∧ t'.2 6 0 = nI (advN (fun j => fN0 (t.2 0 j) (t.2 1 j) (t.2 2 j) (t.2 3 j) (t.2 4)) N 24 0) ∧ t'.2 7 0 = nI (advN (fun j => fN0 (t.2 0 j) (t.2 1 j) (t.2 2 j) (t.2 3 j) (t.2 4)) N 24 0) ∧ t'.2 6 1 = nI (advN (fun j => fN1 (t.2 0 j) (t.2 1 j) (t.2 2 j) (t.2 4)) N 24 0) ∧ t'.2 7 1 = nI (advN (fun j => fN1 (t.2 0 j) (t.2 1 j) (t.2 2 j) (t.2 4)) N 24 0) := by
  obtain ⟨t1, a1, a2, a3, a4, a5⟩ := rs1 16 0 t (by omega) (fun q hq => by omega) (fun q hq => by omega)
  obtain ⟨t2, b1, b2, b3, b4, b5⟩ := rs2 32 0 t1 (by omega) (fun q hq => by omega) (fun q hq => by omega)
  obtain ⟨t3, c1, c2, c3, c4, c6, c7, c8, c9, c10, c11⟩ := rs3 5 0 t2 (by omega) (fun q hq => by omega)
  have f5 : ∀ q, q < 5 → t3.2 q = t.2 q := fun q hq => by rw [c10 q (by omega), b3 q (by omega) (by omega), a3 q (by omega) (by omega)]
  have i3 : ∀ q, q < 3 → t3.1 q = t.1 q := fun q hq => by rw [c2 q hq, b2, a2]
  obtain ⟨t', d1, d2, d3, d4, d5, d6, d7⟩ := rs4 (t := t3) hN (by rw [i3 0 (by omega), h1]) (fun j hj => by
    rw [f5 0 (by omega), f5 1 (by omega), f5 2 (by omega), f5 3 (by omega)]
    exact hok j hj)
  rw [f5 0 (by omega), f5 1 (by omega), f5 2 (by omega), f5 3 (by omega), f5 4 (by omega)] at d4 d5
  rw [f5 0 (by omega), f5 1 (by omega), f5 2 (by omega), f5 4 (by omega)] at d6 d7
  refine ⟨t', ?_, fun q hq => by rw [d2, i3 q hq], by rw [d2, c3], by rw [d2, c4], by rw [d2, c6], by rw [d2, c7], by rw [d2, c8], by rw [d2, c9], fun q hq => by rw [d3 q (by omega) (by omega), f5 q hq], ?_, ?_, ?_, ?_, ?_, d4, d5, d6, d7⟩
  · show m_reset_g0 (m_reset_f 3999) t 0 = _
    simp only [m_reset_g0]
    have e1 := a1 3982
    have e2 := b1 3949
    have e3 := c1 3943
    have e4 := d1 3940
    rw [nI_0] at e1 e2 e3
    rw [show 3982 + (16 + 1) = 3999 from rfl] at e1
    rw [show 3949 + (32 + 1) = 3982 from rfl] at e2
    rw [show 3943 + (5 + 1) = 3949 from rfl] at e3
    rw [show 3940 + 3 = 3943 from rfl] at e4
    rw [e1, e2, e3, e4]
  · intro q hq
    rw [d3 5 (by omega) (by omega), c10 5 (by omega), b3 5 (by omega) (by omega), a4 q hq]
  · intro q hq
    rw [d3 14 (by omega) (by omega), c10 14 (by omega), b3 14 (by omega) (by omega), a5 q hq]
  · intro q hq
    rw [d3 8 (by omega) (by omega), c10 8 (by omega), b4 q hq, a2]
  · intro q hq
    rw [d3 15 (by omega) (by omega), c10 15 (by omega), b5 q hq, a2]
  · intro q hq
    rw [d3 10 (by omega) (by omega), c11 q hq]
