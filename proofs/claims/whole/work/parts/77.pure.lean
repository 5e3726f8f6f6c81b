-- the calls that move
theorem R_monoN {bd bd' N : Nat} {z t : ST} (h : Rel bd N z t) (hb : bd ≤ bd') : Rel bd' N z t := by
  obtain ⟨k, rfl⟩ : ∃ k, bd' = bd + k := ⟨bd' - bd, by omega⟩
  clear hb
  induction k with
  | zero => exact h
  | succ k ih => exact R_mono ih
theorem R_lost {bd N : Nat} {z t : ST} {v : Int32} (h : Rel bd N z t) : Rel bd N (stI z 0 v) (stI t 4 v) := by
  obtain ⟨hP, hM, hD, hT, hF, hme, q0, q1, q2, q3, q4, hS, hA, hV, ha, hb, la, lb, hs, hl, hW, pr, pm, pa, pw⟩ := h
  exact ⟨hP, hM, hD, hT, hF, hme, q0, q1, q2, q3, q4, hS, hA, hV, ha, hb, la, lb, hs, rfl, hW, pr, pm, pa, pw⟩
theorem R_lost0 {bd N : Nat} {z t : ST} {v : Int32} (h : Rel bd N z t) (hv : v = t.1 4) : Rel bd N z (stI t 4 v) := by
  obtain ⟨hP, hM, hD, hT, hF, hme, q0, q1, q2, q3, q4, hS, hA, hV, ha, hb, la, lb, hs, hl, hW, pr, pm, pa, pw⟩ := h
  have hl' : z.1 0 = v := by rw [hl, hv]
  exact ⟨hP, hM, hD, hT, hF, hme, q0, q1, q2, q3, q4, hS, hA, hV, ha, hb, la, lb, hs, hl', hW, pr, pm, pa, pw⟩
theorem R_lo {bd N : Nat} {z t : ST} (h : Rel bd N z t) : z.1 0 = t.1 4 := by
  obtain ⟨hP, hM, hD, hT, hF, hme, q0, q1, q2, q3, q4, hS, hA, hV, ha, hb, la, lb, hs, hl, hW, pr, pm, pa, pw⟩ := h
  exact hl
/-- both sides ask alike whether a number of moves is 1 to 50 -/
theorem cnt_s (v : Int32) (z t : ST) : (x_isMoveCount z v = some (0, z) ∧ m_isCount t v = some (0, t)) ∨ ∃ c : Nat, 1 ≤ c ∧ c ≤ 50 ∧ v = nI c ∧ x_isMoveCount z v = some (1, z) ∧ m_isCount t v = some (1, t) := by
  have t1 : (1 : Int32).toInt = 1 := by decide
  have t0 : (0 : Int32).toInt = 0 := by decide
  have t50 : (50 : Int32).toInt = 50 := by decide
  by_cases q : v < 1
  · left
    have q' : v ≤ 0 := by
      rw [Int32.lt_iff_toInt_lt, t1] at q
      rw [Int32.le_iff_toInt_le, t0]
      omega
    simp only [x_isMoveCount, m_isCount, if_pos q, if_pos q', gib_0]
    exact ⟨trivial, trivial⟩
  · have q' : ¬ v ≤ 0 := by
      rw [Int32.lt_iff_toInt_lt, t1] at q
      rw [Int32.le_iff_toInt_le, t0]
      omega
    by_cases p : 50 < v
    · left
      simp only [x_isMoveCount, m_isCount, if_neg q, if_neg q', if_pos p, gib_0]
      exact ⟨trivial, trivial⟩
    · right
      have n0 : ¬ v < 0 := by
        rw [Int32.le_iff_toInt_le, t0] at q'
        rw [Int32.lt_iff_toInt_lt, t0]
        omega
      have l50 : v ≤ 50 := by
        rw [Int32.lt_iff_toInt_lt, t50] at p
        rw [Int32.le_iff_toInt_le, t50]
        omega
      obtain ⟨c, hc, hv⟩ := nI_of2 (n := 50) t50 n0 l50
      refine ⟨c, ?_, hc, hv, ?_, ?_⟩
      · refine Nat.pos_of_ne_zero (fun e => q' ?_)
        rw [hv, e, nI_0]
        decide
      · simp only [x_isMoveCount, if_neg q, if_neg p, gib_1]
      · simp only [m_isCount, if_neg q', if_neg p, gib_1]
theorem xA1 {n : Nat} {z : ST} {y1 y2 : Int32} : x_Run_advance_29_f (n + 1) 1 z y1 y2 = x_Run_advance_29_g2 (x_Run_advance_29_f n) z y1 y2 := rfl
theorem mA1 {n : Nat} {t : ST} {y1 y2 y3 : Int32} : m_address_f (n + 1) 1 t y1 y2 y3 = m_address_g11 (m_address_f n) t y1 y2 y3 := rfl
theorem mAb2 {n : Nat} {t : ST} {y1 y2 y3 : Int32} : m_address_f (n + 1) 2 t y1 y2 y3 = m_address_g30 (m_address_f n) t y1 y2 y3 := rfl
theorem mAb3 {n : Nat} {t : ST} {y1 y2 y3 : Int32} : m_address_f (n + 2) 3 t y1 y2 y3 = some (y2, stI t 4 (t.1 4)) := rfl
theorem mAb4 {n : Nat} {t : ST} {y1 y2 y3 : Int32} : m_address_f (n + 1) 4 t y1 y2 y3 = some (y2, stI t 4 y3) := rfl
/-- the moves of the address stream in a call -/
theorem loopA {bd N c : Nat} (hc : c ≤ 50) : ∀ (m k nx nm : Nat) (z t : ST), k + m = c → m + 1 ≤ nx → m + 5 ≤ nm → Rel bd N z t → ∃ (r n' : Nat) (z' t' : ST), r ≤ c ∧ x_Run_advance_29_f nx 1 z (nI c) (nI k) = some (nI r, z') ∧ m_address_f nm 1 t (nI c) (nI k) 0 = m_address_f (n' + 3) 2 t' (nI c) (nI r) 0 ∧ Rel bd N z' t' ∧ (r < c → x_AddressStream_isAtOutcome_29 z' = some (t'.1 5, z')) := by
  intro m
  induction m with
  | zero =>
    intro k nx nm z t hk hx hm h
    obtain ⟨nx, rfl⟩ : ∃ n, nx = n + 1 := ⟨nx - 1, by omega⟩
    obtain ⟨nm, rfl⟩ : ∃ n, nm = n + 3 + 1 := ⟨nm - 4, by omega⟩
    refine ⟨k, nm, z, t, by omega, ?_, ?_, h, fun q => by omega⟩
    · rw [xA1, x_Run_advance_29_g2, if_pos (nI_le (by omega) (by omega))]
    · rw [mA1, m_address_g11, if_pos (nI_le (by omega) (by omega))]
  | succ m ih =>
    intro k nx nm z t hk hx hm h
    obtain ⟨nx, rfl⟩ : ∃ n, nx = n + 1 := ⟨nx - 1, by omega⟩
    obtain ⟨nm, rfl⟩ : ∃ n, nm = n + 3 + 1 := ⟨nm - 4, by omega⟩
    obtain ⟨r, z1, t1, b1, b2, b3, b4, b5, b6⟩ := stepA h
    have nle : ¬ nI c ≤ nI k := nI_ge (by omega) (by omega)
    rcases b1 with b | b
    · refine ⟨k, nm, z1, t1, by omega, ?_, ?_, b4, fun _ => b6 b⟩
      · rw [xA1, x_Run_advance_29_g2, if_neg nle, b2, obn_s, if_pos b]
      · rw [mA1, m_address_g11, if_neg nle, b3, obn_s, if_pos b]
    · have n0 : ¬ r = 0 := by rw [b]; decide
      obtain ⟨r2, n', z', t', c1, c2, c3, c4, c5⟩ := ih (k + 1) nx (nm + 3) z1 t1 (by omega) (by omega) (by omega) b4
      refine ⟨r2, n', z', t', c1, ?_, ?_, c4, c5⟩
      · rw [xA1, x_Run_advance_29_g2, if_neg nle, b2, obn_s, if_neg n0, nI_1, c2]
      · rw [mA1, m_address_g11, if_neg nle, b3, obn_s, if_neg n0, nI_1, c3]
theorem loss_s {z : ST} {v : Int32} (h : x_AddressStream_isAtOutcome_29 z = some (v, z)) : x_noteLoss z = some (0, if v = 0 then z else stI z 0 (z.1 0 + 1)) := by
  simp only [x_noteLoss, h, obn_s, bnd_s]
  by_cases q : v = 0
  · rw [if_pos q, if_pos q]
  · rw [if_neg q, if_neg q]
/-- address -/
theorem callA {bd N : Nat} {z t : ST} (h : Rel bd N z t) (v : Int32) : ∃ r z' t', x_address z v = some (r, z') ∧ m_address t v = some (r, t') ∧ Rel bd N z' t' := by
  rcases cnt_s v z t with ⟨c1, c2⟩ | ⟨c, h1, h50, hv, c1, c2⟩
  · refine ⟨-1, z, t, ?_, ?_, h⟩
    · simp only [x_address, c1, obn_s, if_true]
    · show m_address_g0 (m_address_f 3999) t v 0 0 = _
      simp only [m_address_g0, c2, obn_s, if_true]
  · subst hv
    have n10 : ¬ (1 : Int32) = 0 := by decide
    obtain ⟨r, n', z', t', d1, d2, d3, d4, d5⟩ := loopA (bd := bd) (N := N) h50 c 0 3999 3999 z t (by omega) (by omega) (by omega) h
    have xa : x_Run_advance_29 z (nI c) = some (nI r, z') := by
      rw [nI_0] at d2
      show x_Run_advance_29_g0 (x_Run_advance_29_f 3999) z (nI c) 0 = _
      simp only [x_Run_advance_29_g0]
      exact d2
    have ma : m_address t (nI c) = m_address_f (n' + 3) 2 t' (nI c) (nI r) 0 := by
      rw [nI_0] at d3
      rw [← d3]
      show m_address_g0 (m_address_f 3999) t (nI c) 0 0 = _
      simp only [m_address_g0, c2, obn_s, if_neg n10]
    rw [ma, mAb2]
    simp only [m_address_g30]
    by_cases e : r < c
    · have nle : ¬ nI c ≤ nI r := nI_ge e (by omega)
      have ls := loss_s (d5 e)
      rw [if_neg nle]
      by_cases q : t'.1 5 = 0
      · rw [if_pos q] at ls ⊢
        rw [mAb3]
        refine ⟨nI r, z', _, ?_, rfl, R_lost0 d4 rfl⟩
        simp only [x_address, c1, obn_s, if_neg n10]
        rw [xa]
        simp only [obn_s, if_neg nle, ls]
      · rw [if_neg q] at ls ⊢
        rw [mAb4]
        refine ⟨nI r, _, _, ?_, rfl, R_lost d4⟩
        simp only [x_address, c1, obn_s, if_neg n10]
        rw [xa]
        simp only [obn_s, if_neg nle, ls, R_lo d4]
    · have le : nI c ≤ nI r := nI_le (by omega) (by omega)
      rw [if_pos le, mAb3]
      refine ⟨nI r, z', _, ?_, rfl, R_lost0 d4 rfl⟩
      simp only [x_address, c1, obn_s, if_neg n10]
      rw [xa]
      simp only [obn_s, if_pos le]
theorem xV1 {n : Nat} {z : ST} {y1 y2 : Int32} : x_Run_advance_31_f (n + 1) 1 z y1 y2 = x_Run_advance_31_g2 (x_Run_advance_31_f n) z y1 y2 := rfl
theorem mV1 {n : Nat} {t : ST} {y1 y2 : Int32} : m_value_f (n + 1) 1 t y1 y2 = m_value_g11 (m_value_f n) t y1 y2 := rfl
/-- the moves of the value stream in a call -/
theorem loopV {N c : Nat} (hc : c ≤ 50) : ∀ (m k nx nm bd : Nat) (z t : ST), k + m = c → m + 1 ≤ nx → m + 1 ≤ nm → bd + m ≤ 1000000 → Rel bd N z t → ∃ (r : Int32) (z' t' : ST), x_Run_advance_31_f nx 1 z (nI c) (nI k) = some (r, z') ∧ m_value_f nm 1 t (nI c) (nI k) = some (r, t') ∧ Rel (bd + m) N z' t' := by
  intro m
  induction m with
  | zero =>
    intro k nx nm bd z t hk hx hm hbd h
    obtain ⟨nx, rfl⟩ : ∃ n, nx = n + 1 := ⟨nx - 1, by omega⟩
    obtain ⟨nm, rfl⟩ : ∃ n, nm = n + 1 := ⟨nm - 1, by omega⟩
    refine ⟨nI k, z, t, ?_, ?_, h⟩
    · rw [xV1, x_Run_advance_31_g2, if_pos (nI_le (by omega) (by omega))]
    · rw [mV1, m_value_g11, if_pos (nI_le (by omega) (by omega))]
  | succ m ih =>
    intro k nx nm bd z t hk hx hm hbd h
    obtain ⟨nx, rfl⟩ : ∃ n, nx = n + 1 := ⟨nx - 1, by omega⟩
    obtain ⟨nm, rfl⟩ : ∃ n, nm = n + 1 := ⟨nm - 1, by omega⟩
    obtain ⟨r, z1, t1, b1, b2, b3, b4⟩ := stepVal h (by omega)
    have nle : ¬ nI c ≤ nI k := nI_ge (by omega) (by omega)
    rcases b1 with b | b
    · refine ⟨nI k, z1, t1, ?_, ?_, R_monoN b4 (by omega)⟩
      · rw [xV1, x_Run_advance_31_g2, if_neg nle, b2, obn_s, if_pos b]
      · rw [mV1, m_value_g11, if_neg nle, b3, obn_s, if_pos b]
    · have n0 : ¬ r = 0 := by rw [b]; decide
      obtain ⟨r2, z', t', c2, c3, c4⟩ := ih (k + 1) nx nm (bd + 1) z1 t1 (by omega) (by omega) (by omega) (by omega) b4
      refine ⟨r2, z', t', ?_, ?_, R_monoN c4 (by omega)⟩
      · rw [xV1, x_Run_advance_31_g2, if_neg nle, b2, obn_s, if_neg n0, nI_1, c2]
      · rw [mV1, m_value_g11, if_neg nle, b3, obn_s, if_neg n0, nI_1, c3]
/-- value -/
theorem calV {bd N : Nat} {z t : ST} (h : Rel bd N z t) (hbd : bd < 900000) (v : Int32) : ∃ r z' t', x_value z v = some (r, z') ∧ m_value t v = some (r, t') ∧ Rel (bd + 50) N z' t' := by
  rcases cnt_s v z t with ⟨c1, c2⟩ | ⟨c, h1, h50, hv, c1, c2⟩
  · refine ⟨-1, z, t, ?_, ?_, R_monoN h (by omega)⟩
    · simp only [x_value, c1, obn_s, if_true]
    · show m_value_g0 (m_value_f 3999) t v 0 = _
      simp only [m_value_g0, c2, obn_s, if_true]
  · subst hv
    have n10 : ¬ (1 : Int32) = 0 := by decide
    obtain ⟨r, z', t', d2, d3, d4⟩ := loopV (N := N) h50 c 0 3999 3999 bd z t (by omega) (by omega) (by omega) (by omega) h
    rw [nI_0] at d2 d3
    have xa : x_Run_advance_31 z (nI c) = some (r, z') := by
      show x_Run_advance_31_g0 (x_Run_advance_31_f 3999) z (nI c) 0 = _
      simp only [x_Run_advance_31_g0]
      exact d2
    refine ⟨r, z', t', ?_, ?_, R_monoN d4 (by omega)⟩
    · simp only [x_value, c1, obn_s, if_neg n10]
      rw [xa, obn_s]
    · show m_value_g0 (m_value_f 3999) t (nI c) 0 = _
      simp only [m_value_g0, c2, obn_s, if_neg n10]
      exact d3
